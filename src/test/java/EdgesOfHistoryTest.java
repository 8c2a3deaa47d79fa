import java.util.Arrays;
import java.util.function.IntSupplier;

/** The sentences of 'Terms: history' and 'errors' that name a boundary case, each with a test of its own. */
public final class EdgesOfHistoryTest {
    public static void main(String[] args) {
        Due due = new Due("EdgesOfHistoryTest");
        fourStates(due);
        theOldestIsDropped(due);
        roundTheHistory(due);
        emptyHistory(due);
        undoRemoves(due);
        eachActRecords(due);
        anActThatChangesNothingButIsDone(due);
        noErrorAndNoNone(due);
        whatIsNoAct(due);
        emptySnapshot(due);
        inPlaceOfTheOneThatWas(due);
        snapshotStays(due);
        restoreIsAnAct(due);
        notOfTheState(due);
        allOfTheState(due);
        refusedCalls(due);
        refusedCallsLeaveHistoryAndSnapshot(due);
        orderOfTheErrors(due);
        due.end();
    }

    private static void fourStates(Due due) {
        due.sentence("A history of at most 4 states is kept");
        GrainLeg leg = new GrainLeg();
        for (int acts = 0; acts <= 7; acts++) {
            due.is("states behind " + acts + " acts", leg.count(15), Math.min(4, acts));
            due.is("run(1)", leg.run(1), 0);
        }
    }

    private static void theOldestIsDropped(Due due) {
        due.sentence("when one more is recorded, the oldest one is dropped");
        for (int acts = 4; acts <= 9; acts++) {
            GrainLeg leg = new GrainLeg();
            for (int i = 0; i < acts; i++) {
                leg.run(1);
            }
            for (int left = 3; left >= 0; left--) {
                due.is("undo()", leg.undo(), left);
                due.is("ticks of " + acts, leg.count(14), acts - 4 + left);
            }
            due.is("undo()", leg.undo(), GrainLeg.NONE);
            due.is("ticks of " + acts, leg.count(14), acts - 4);
        }
    }

    /** For each number of acts and of undos between 0 and 4, behind which acts fill the history once more. */
    private static void roundTheHistory(Due due) {
        due.sentence("at most 4 states .. the oldest one is dropped: again and again");
        for (int acts = 4; acts <= 8; acts++) {
            for (int undos = 0; undos <= 4; undos++) {
                GrainLeg leg = new GrainLeg();
                for (int i = 0; i < acts; i++) {
                    leg.run(1);
                }
                for (int i = 0; i < undos; i++) {
                    leg.undo();
                }
                for (int i = 0; i < 3; i++) {
                    leg.run(10);
                }
                int[] ticks = {acts - undos + 20, acts - undos + 10, acts - undos, acts - undos - 1};
                int states = Math.min(4, 4 - undos + 3);
                due.is("states", leg.count(15), states);
                for (int i = 0; i < states; i++) {
                    due.is("undo()", leg.undo(), states - 1 - i);
                    due.is("ticks behind undo() " + i, leg.count(14), ticks[i]);
                }
                due.is("undo()", leg.undo(), GrainLeg.NONE);
            }
        }
    }

    private static void emptyHistory(Due due) {
        due.sentence("NONE if the history is empty");
        GrainLeg leg = new GrainLeg();
        due.changesNothing(leg, "undo() at first", () -> leg.undo(), GrainLeg.NONE);
        due.is("set(0, 4)", leg.set(0, 4), 3);
        due.is("undo() of the only state", leg.undo(), 0);
        due.is("drive", leg.count(20), 3);
        due.changesNothing(leg, "undo() of none", () -> leg.undo(), GrainLeg.NONE);
    }

    private static void undoRemoves(Due due) {
        due.sentence("undo() removes and restores the latest one");
        GrainLeg leg = new GrainLeg();
        leg.set(0, 4);
        leg.set(0, 5);
        due.is("undo()", leg.undo(), 1);
        due.is("drive", leg.count(20), 4);
        due.is("it is no act", leg.count(15), 1);
        due.is("undo()", leg.undo(), 0);
        due.is("drive", leg.count(20), 3);
    }

    /** A leg in which each of the acts is done: it stands, with grain in its boot; tripped, if the act is reset(). */
    private static GrainLeg readyFor(int act) {
        GrainLeg leg = Legs.standing(100);
        if (act == 4) {
            leg.start();
        } else if (act == 5) {
            leg = Legs.trippedForWarmth();
            leg.run(60);
        }
        leg.keep();
        leg.type('w');
        leg.type('1');
        leg.run(1);
        return leg;
    }

    private static int doAct(GrainLeg leg, int act) {
        switch (act) {
            case 0: return leg.set(0, 4);
            case 1: return leg.gate(true);
            case 2: return leg.run(200);
            case 3: return leg.start();
            case 4: return leg.stop();
            case 5: return leg.reset();
            case 6: return leg.clean(100);
            case 7: return leg.perform();
            default: return leg.restore();
        }
    }

    private static void eachActRecords(Due due) {
        due.sentence("Each call of a method that is described as an act .. records the state that was before it");
        for (int act = 0; act <= 8; act++) {
            GrainLeg leg = readyFor(act);
            int[] before = Told.all(leg);
            int states = leg.count(15);
            int answer = doAct(leg, act);
            due.isTrue("act " + act + " is done", answer >= 0);
            due.isTrue("it changes something", !Arrays.equals(before, Told.all(leg)));
            due.is("states", leg.count(15), Math.min(4, states + 1));
            due.is("undo()", leg.undo(), Math.min(4, states + 1) - 1);
            due.isTrue("as before act " + act, Arrays.equals(before, Told.all(leg)));
        }
    }

    private static void anActThatChangesNothingButIsDone(Due due) {
        due.sentence("and returns no error and not NONE, records the state");
        GrainLeg leg = new GrainLeg();
        leg.keep();
        due.is("restore() where all is so already", leg.restore(), 0);
        due.is("states", leg.count(15), 1);
        due.performs(leg, "s", 1);
        due.is("states", leg.count(15), 2);
        due.is("set(4, -9)", leg.set(4, -9), 0);
        due.is("set(4, 0): the answer -9 is no error", leg.set(4, 0), -9);
        due.is("states", leg.count(15), 4);
    }

    private static void isNotRecorded(Due due, GrainLeg leg, String call, IntSupplier made, int want) {
        int states = leg.count(15);
        due.is(call, made.getAsInt(), want);
        due.is("states behind " + call, leg.count(15), states);
    }

    private static void noErrorAndNoNone(Due due) {
        due.sentence("and returns no error and not NONE");
        GrainLeg leg = new GrainLeg();
        isNotRecorded(due, leg, "set(5, 0)", () -> leg.set(5, 0), GrainLeg.UNKNOWN);
        isNotRecorded(due, leg, "set(0, 7)", () -> leg.set(0, 7), GrainLeg.BAD_VALUE);
        isNotRecorded(due, leg, "set(0, 3)", () -> leg.set(0, 3), GrainLeg.NONE);
        isNotRecorded(due, leg, "gate(false)", () -> leg.gate(false), GrainLeg.NONE);
        isNotRecorded(due, leg, "stop()", () -> leg.stop(), GrainLeg.NONE);
        isNotRecorded(due, leg, "reset()", () -> leg.reset(), GrainLeg.NONE);
        isNotRecorded(due, leg, "clean(0)", () -> leg.clean(0), GrainLeg.BAD_VALUE);
        isNotRecorded(due, leg, "clean(1)", () -> leg.clean(1), GrainLeg.NOT_POSSIBLE);
        isNotRecorded(due, leg, "run(0)", () -> leg.run(0), GrainLeg.BAD_VALUE);
        isNotRecorded(due, leg, "run(201)", () -> leg.run(201), GrainLeg.BAD_VALUE);
        isNotRecorded(due, leg, "perform()", () -> leg.perform(), -200);
        isNotRecorded(due, leg, "restore()", () -> leg.restore(), GrainLeg.NONE);
        GrainLeg running = new GrainLeg();
        due.performs(running, "g,o", 2);
        isNotRecorded(due, running, "start()", () -> running.start(), GrainLeg.NONE);
        isNotRecorded(due, running, "gate(true)", () -> running.gate(true), GrainLeg.NONE);
        GrainLeg tripped = new GrainLeg();
        due.performs(tripped, "d6,a9,g,w3,x", 5);
        isNotRecorded(due, tripped, "start()", () -> tripped.start(), GrainLeg.NOT_POSSIBLE);
        isNotRecorded(due, tripped, "gate(true)", () -> tripped.gate(true), GrainLeg.NOT_POSSIBLE);
        isNotRecorded(due, tripped, "reset()", () -> tripped.reset(), GrainLeg.NOT_POSSIBLE);
        isNotRecorded(due, tripped, "perform()", () -> tripped.perform(), GrainLeg.NOT_POSSIBLE);
    }

    private static void whatIsNoAct(Due due) {
        due.sentence("a method that is described as an act: no other one records");
        GrainLeg leg = new GrainLeg();
        due.is("start()", leg.start(), 0);
        int[] answers = {leg.type('g'), leg.stopped(0), leg.keep(), leg.bucket(0), leg.sensor(0, 0), leg.tripsIn(),
            leg.ifTension(0, 1), leg.leastTension(1), leg.trip(0, 0), leg.count(0), leg.clearText()};
        due.is("calls", answers.length, 11);
        due.is("states", leg.count(15), 1);
        due.is("undo()", leg.undo(), 0);
        due.is("stands", leg.count(11), 0);
    }

    private static void emptySnapshot(Due due) {
        due.sentence("There is one snapshot, empty at first");
        GrainLeg leg = new GrainLeg();
        due.changesNothing(leg, "restore()", () -> leg.restore(), GrainLeg.NONE);
        due.is("run(9)", leg.run(9), 0);
        due.changesNothing(leg, "restore()", () -> leg.restore(), GrainLeg.NONE);
        due.is("keep()", leg.keep(), 9);
        due.is("restore()", leg.restore(), 9);
    }

    private static void inPlaceOfTheOneThatWas(Due due) {
        due.sentence("Takes a snapshot of the state, in place of the one that was");
        GrainLeg leg = new GrainLeg();
        due.is("keep()", leg.keep(), 0);
        due.is("run(5)", leg.run(5), 0);
        due.is("keep()", leg.keep(), 5);
        due.is("run(5)", leg.run(5), 0);
        due.is("restore()", leg.restore(), 5);
        due.is("ticks", leg.count(14), 5);
    }

    private static void snapshotStays(Due due) {
        due.sentence("Restores the state of the snapshot, which stays");
        GrainLeg leg = new GrainLeg();
        due.performs(leg, "o,w5,g,w5", 4);
        due.is("keep()", leg.keep(), 10);
        int[] kept = Told.all(leg);
        for (int i = 0; i < 3; i++) {
            due.is("run(7)", leg.run(7) > 0 ? 1 : 0, 1);
            due.is("restore()", leg.restore(), 10);
            due.isTrue("as it was kept", Arrays.equals(kept, Told.all(leg)));
        }
        for (int i = 3; i >= 0; i--) {
            due.is("undo()", leg.undo(), i);
        }
        due.is("it stays over undo()", leg.restore(), 10);
    }

    private static void restoreIsAnAct(Due due) {
        due.sentence("Restores the state of the snapshot .. This is an act");
        GrainLeg leg = new GrainLeg();
        due.is("keep()", leg.keep(), 0);
        due.is("run(5)", leg.run(5), 0);
        due.is("restore()", leg.restore(), 0);
        due.is("states", leg.count(15), 2);
        due.is("undo()", leg.undo(), 1);
        due.is("ticks", leg.count(14), 5);
        due.is("undo()", leg.undo(), 0);
        due.is("ticks", leg.count(14), 0);
    }

    private static void notOfTheState(Due due) {
        due.sentence("A state is everything but the text, the history, the snapshot and the latest stop");
        GrainLeg leg = Legs.trippedForSlip();
        due.is("keep()", leg.keep(), 8);
        due.is("run(1)", leg.run(1), 0);
        due.performs(leg, "x,g", GrainLeg.NOT_POSSIBLE);
        due.is("restore()", leg.restore(), 8);
        due.is("the text is as it was", leg.count(16), 3);
        due.is("the stop is as it was", leg.stopped(0), 1);
        due.is("the history is not that of the snapshot", leg.count(15), 4);
        due.is("undo()", leg.undo(), 3);
        due.is("the text is as it was", leg.count(16), 3);
        due.is("the stop is as it was", leg.stopped(1), GrainLeg.NOT_POSSIBLE);
        due.is("keep()", leg.keep(), 9);
        due.is("undo()", leg.undo(), 2);
        due.is("the snapshot is as it was", leg.restore(), 9);
    }

    /** Its boot trips it; by hand, by the head and by what falls back and is spilt all the counts are more than 0. */
    private static GrainLeg oneState(Due due) {
        GrainLeg leg = Legs.withBucketBelowHead(8);
        leg.stop();
        Legs.fill(leg, 300);
        due.is("clean(1)", leg.clean(1), 299);
        due.performs(leg, "t199,a-7,g,w1", 4);
        due.is("tripped", leg.count(13), 1);
        return leg;
    }

    /** Runs on to trips for the slip and for the warmth; then it runs, slips, feeds and is warm. */
    private static void goToAnotherState(Due due, GrainLeg leg) {
        due.is("clean(200)", leg.clean(200), 80);
        due.performs(leg, "r,f40,o,w3,t20,d0,g,w3,t199,r,d6,a9,g,w9,w40,t0,r", 17);
        due.performs(leg, "o,d4,c19,f13,t28,a-6,g,w2,d5,w1", 10);
        due.is("runs", leg.count(11), 1);
        due.is("open", leg.count(12), 1);
    }

    private static void allOfTheState(Due due) {
        due.sentence("A state is everything");
        GrainLeg leg = oneState(due);
        int ticks = leg.keep();
        int[] first = Told.all(leg);
        goToAnotherState(due, leg);
        int[] second = Told.all(leg);
        for (int what = 0; what <= 24; what++) {
            boolean isOfNone = what >= 15 && what <= 19;
            due.is("count(" + what + ") is another", first[what] != second[what] ? 1 : 0, isOfNone ? 0 : 1);
        }
        due.is("restore()", leg.restore(), ticks);
        due.isTrue("all is as it was kept", Arrays.equals(first, Told.all(leg)));
        due.is("undo()", leg.undo(), 3);
        due.isTrue("all is as it was before", Arrays.equals(second, Told.all(leg)));
        due.is("restore()", leg.restore(), ticks);
        due.isTrue("all is as it was kept", Arrays.equals(first, Told.all(leg)));
    }

    private static GrainLeg refusing(int call) {
        switch (call) {
            case 0: return Legs.trippedForSlip();
            case 1: return Legs.trippedForBoot();
            case 2: return Legs.trippedForWarmth();
            case 3: return Legs.standing(300);
            default: return Legs.atTick(99999);
        }
    }

    /** Each of them on a leg of its own: an error or NONE is due, and that all is told as before. */
    private static void refusedCalls(Due due) {
        due.sentence("A call that returns an error or NONE changes nothing");
        for (int kind = 0; kind < 5; kind++) {
            for (int call = 0; call < 29; call++) {
                GrainLeg leg = refusing(kind);
                int[] before = Told.everything(leg);
                int answer = callThatMayBeRefused(leg, call);
                if (answer <= -101) {
                    due.isTrue("call " + call + " of kind " + kind + " changes nothing",
                        Arrays.equals(before, Told.everything(leg)));
                } else {
                    due.isTrue("call " + call + " is not refused by kind " + kind, call >= 20);
                }
            }
        }
    }

    private static int callThatMayBeRefused(GrainLeg leg, int call) {
        switch (call) {
            case 0: return leg.set(-1, 0);
            case 1: return leg.set(5, 0);
            case 2: return leg.set(0, -1);
            case 3: return leg.set(1, 201);
            case 4: return leg.set(2, leg.count(22));
            case 5: return leg.gate(false);
            case 6: return leg.stop();
            case 7: return leg.clean(0);
            case 8: return leg.clean(301);
            case 9: return leg.run(0);
            case 10: return leg.run(201);
            case 11: return leg.restore();
            case 12: return leg.bucket(12);
            case 13: return leg.sensor(3, 0);
            case 14: return leg.tripsIn();
            case 15: return leg.ifTension(201, 1);
            case 16: return leg.leastTension(1);
            case 17: return leg.trip(-1, 0);
            case 18: return leg.count(17);
            case 19: return leg.stopped(2);
            case 20: return leg.gate(true);
            case 21: return leg.start();
            case 22: return leg.reset();
            case 23: return leg.clean(300);
            case 24: return leg.run(1);
            case 25: return leg.undo();
            case 26: return leg.set(3, 8);
            case 27: return leg.trip(0, 0);
            default: return leg.stopped(1);
        }
    }

    private static void refusedCallsLeaveHistoryAndSnapshot(Due due) {
        due.sentence("changes nothing: neither the history nor the snapshot");
        GrainLeg leg = new GrainLeg();
        due.is("run(3)", leg.run(3), 0);
        due.is("keep()", leg.keep(), 3);
        due.performs(leg, "d6,a9,g,w9", 4);
        due.is("run(1)", leg.run(1), 0);
        int[] before = Told.all(leg);
        for (int call = 0; call < 23; call++) {
            if (call != 11) {
                due.isTrue("call " + call + " is refused", callThatMayBeRefused(leg, call) <= -101);
            }
        }
        due.performs(leg, "d5,g", GrainLeg.NOT_POSSIBLE);
        due.isTrue("nothing changed", Arrays.equals(before, Told.all(leg)));
        due.is("undo() of run(1)", leg.undo(), 2);
        due.is("ticks", leg.count(14), 12);
        due.is("undo() of perform()", leg.undo(), 1);
        due.is("ticks", leg.count(14), 3);
        due.is("the snapshot", leg.restore(), 3);
    }

    private static void orderOfTheErrors(Due due) {
        due.sentence("Where several errors can apply, the order of the @return line is the order of the checks");
        GrainLeg leg = new GrainLeg();
        due.is("set(5, 999)", leg.set(5, 999), GrainLeg.UNKNOWN);
        due.is("sensor(3, 4)", leg.sensor(3, 4), GrainLeg.UNKNOWN);
        due.is("clean(301) of nothing", leg.clean(301), GrainLeg.BAD_VALUE);
        due.is("leastTension(101) where it stands", leg.leastTension(101), GrainLeg.BAD_VALUE);
        due.is("trip(0, 3) without a trip", leg.trip(0, 3), GrainLeg.BAD_VALUE);
        due.is("stopped(2) without a stop", leg.stopped(2), GrainLeg.BAD_VALUE);
        due.is("clean(0) where it runs", Legs.rubbing().clean(0), GrainLeg.BAD_VALUE);
        due.is("run(201) at the last tick", Legs.atTick(99999).run(201), GrainLeg.BAD_VALUE);
        due.is("run(0) at the last tick", Legs.atTick(99999).run(0), GrainLeg.BAD_VALUE);
        due.is("reset() of a leg that tripped, where nothing is so", Legs.trippedForSlip().reset(),
            GrainLeg.NOT_POSSIBLE);
        GrainLeg tripped = Legs.trippedForSlip();
        due.performs(tripped, "g,d7", -203);
    }
}
