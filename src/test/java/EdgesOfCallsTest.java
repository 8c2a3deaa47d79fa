/** The sentences of promises 2 to 8, 16, 17, 21 and 22 that name a boundary case, each with a test of its own. */
public final class EdgesOfCallsTest {
    private static final int LEAST = Integer.MIN_VALUE;
    private static final int MOST = Integer.MAX_VALUE;

    public static void main(String[] args) {
        Due due = new Due("EdgesOfCallsTest");
        numberToSet(due);
        previousNumber(due);
        noneIfSoAlready(due);
        gateAnswersTheBoot(due);
        noOpeningOfATrippedLeg(due);
        gateAsItIs(due);
        startAnswersTheLoad(due);
        noneIfItRuns(due);
        stopAnswersAllBuckets(due);
        noneIfItStands(due);
        resetAnswersTheSensor(due);
        noneIfNotTripped(due);
        measuresToClean(due);
        notSoManyToClean(due);
        noCleaningWhereItRuns(due);
        ticksToRun(due);
        givenOutInThem(due);
        noMoreThan99999(due);
        fullInATextToo(due);
        placeOfBucket(due);
        sensorAndWhat(due);
        whatOfTrip(due);
        whatOfCount(due);
        reasonOfCount(due);
        oneOtherwiseZero(due);
        due.end();
    }

    private static void numberToSet(Due due) {
        due.sentence("which: 0 to 4; UNKNOWN");
        for (int which : new int[] {LEAST, -1, 5, 20, MOST}) {
            GrainLeg leg = new GrainLeg();
            due.changesNothing(leg, "set(" + which + ", 1)", () -> leg.set(which, 1), GrainLeg.UNKNOWN);
        }
        due.is("set(0, 1)", new GrainLeg().set(0, 1), 3);
        due.is("set(4, 1)", new GrainLeg().set(4, 1), 0);
        for (int value : new int[] {LEAST, MOST}) {
            for (int which = 0; which < 5; which++) {
                due.is("set(" + which + ", " + value + ")", new GrainLeg().set(which, value), GrainLeg.BAD_VALUE);
            }
        }
    }

    private static void previousNumber(Due due) {
        due.sentence("Returns the previous one");
        GrainLeg leg = new GrainLeg();
        due.is("set(4, -9)", leg.set(4, -9), 0);
        due.is("set(4, 9)", leg.set(4, 9), -9);
        due.is("set(4, -1)", leg.set(4, -1), 9);
        due.is("set(1, 0)", leg.set(1, 0), 60);
        due.is("set(1, 200)", leg.set(1, 200), 0);
        due.is("set(1, 60)", leg.set(1, 60), 200);
    }

    private static void noneIfSoAlready(Due due) {
        due.sentence("NONE if it is so already");
        GrainLeg leg = new GrainLeg();
        leg.set(4, -9);
        due.changesNothing(leg, "set(4, -9) again", () -> leg.set(4, -9), GrainLeg.NONE);
        leg.set(1, 0);
        due.changesNothing(leg, "set(1, 0) again", () -> leg.set(1, 0), GrainLeg.NONE);
        due.is("set(0, 3)", leg.set(0, 3), GrainLeg.NONE);
        due.is("set(0, 4)", leg.set(0, 4), 3);
    }

    private static void gateAnswersTheBoot(Due due) {
        due.sentence("Opens or closes the gate. Returns the measures in the boot");
        for (int boot : new int[] {0, 1, 299, 300}) {
            GrainLeg leg = Legs.standing(boot);
            due.is("gate(true)", leg.gate(true), boot);
            due.is("open", leg.count(12), 1);
            due.is("gate(false)", leg.gate(false), boot);
            due.is("closed", leg.count(12), 0);
        }
    }

    private static void noOpeningOfATrippedLeg(Due due) {
        due.sentence("NOT_POSSIBLE if it is to be open, and the leg tripped and was not reset");
        GrainLeg leg = Legs.trippedForSlip();
        due.changesNothing(leg, "gate(true)", () -> leg.gate(true), GrainLeg.NOT_POSSIBLE);
        due.is("gate(false): it is closed", leg.gate(false), GrainLeg.NONE);
        due.is("set(1, 50)", leg.set(1, 50), 0);
        due.is("gate(true), though it could be reset", leg.gate(true), GrainLeg.NOT_POSSIBLE);
        due.is("reset()", leg.reset(), 0);
        due.is("gate(true) when it was reset", leg.gate(true), 200);
        due.is("undo()", leg.undo(), 3);
        due.is("undo() of the reset", leg.undo(), 2);
        due.is("gate(true)", leg.gate(true), GrainLeg.NOT_POSSIBLE);
    }

    private static void gateAsItIs(Due due) {
        due.sentence("gate: NONE if it is so already");
        GrainLeg leg = new GrainLeg();
        due.changesNothing(leg, "gate(false)", () -> leg.gate(false), GrainLeg.NONE);
        due.is("gate(true)", leg.gate(true), 0);
        due.changesNothing(leg, "gate(true)", () -> leg.gate(true), GrainLeg.NONE);
    }

    private static void startAnswersTheLoad(Due due) {
        due.sentence("Starts the leg. Returns the load as it is");
        int[][] bootLoad = {{0, 0}, {101, 0}, {102, 1}, {300, 100}};
        for (int[] row : bootLoad) {
            due.is("start() with " + row[0], Legs.standing(row[0]).start(), row[1]);
        }
        due.is("start() with full buckets", Legs.withFullBuckets(300).start(), 200);
    }

    private static void noneIfItRuns(Due due) {
        due.sentence("NONE if it runs already");
        GrainLeg leg = new GrainLeg();
        due.is("start()", leg.start(), 0);
        due.changesNothing(leg, "start()", () -> leg.start(), GrainLeg.NONE);
        due.is("run(1)", leg.run(1), 0);
        due.is("start()", leg.start(), GrainLeg.NONE);
    }

    private static void stopAnswersAllBuckets(Due due) {
        due.sentence("Stops the leg. Returns the measures in all buckets");
        GrainLeg leg = Legs.withFullBuckets(0);
        due.is("start()", leg.start(), 100);
        due.is("stop(), also those at the place 0", leg.stop(), 120);
        GrainLeg empty = new GrainLeg();
        due.is("start()", empty.start(), 0);
        due.is("stop()", empty.stop(), 0);
    }

    private static void noneIfItStands(Due due) {
        due.sentence("NONE if it stands already");
        GrainLeg leg = new GrainLeg();
        due.changesNothing(leg, "stop() at first", () -> leg.stop(), GrainLeg.NONE);
        GrainLeg tripped = Legs.trippedForBoot();
        due.changesNothing(tripped, "stop() of a leg that tripped", () -> tripped.stop(), GrainLeg.NONE);
    }

    private static void resetAnswersTheSensor(Due due) {
        due.sentence("Returns the number of the sensor that tripped it");
        GrainLeg slip = Legs.trippedForSlip();
        slip.set(1, 50);
        due.is("reset() for the slip", slip.reset(), 0);
        GrainLeg boot = Legs.trippedForBoot();
        boot.clean(300);
        due.is("reset() for the boot", boot.reset(), 1);
        GrainLeg warmth = Legs.trippedForWarmth();
        warmth.run(60);
        due.is("reset() for the warmth", warmth.reset(), 2);
        due.is("it stands", warmth.count(11), 0);
        due.is("the gate is closed", warmth.count(12), 0);
    }

    private static void noneIfNotTripped(Due due) {
        due.sentence("NONE if it did not trip, or was reset");
        GrainLeg leg = new GrainLeg();
        due.changesNothing(leg, "reset() at first", () -> leg.reset(), GrainLeg.NONE);
        due.is("start()", leg.start(), 0);
        due.is("reset() where it runs", leg.reset(), GrainLeg.NONE);
        due.is("stop()", leg.stop(), 0);
        due.is("reset() where it was stopped", leg.reset(), GrainLeg.NONE);
        GrainLeg warm = Legs.withBoot(40, 6, 0);
        due.performs(warm, "s,c1,d6,a9,t200,g,w2,s,t0", 9);
        due.is("warmth", warm.count(10), 68);
        due.is("boot", warm.count(0), 228);
        due.is("reset() of one that did not trip, where nothing is so", warm.reset(), GrainLeg.NONE);
        GrainLeg tripped = Legs.trippedForBoot();
        due.is("clean(300)", tripped.clean(300), 0);
        due.is("reset()", tripped.reset(), 1);
        due.changesNothing(tripped, "reset() again", () -> tripped.reset(), GrainLeg.NONE);
    }

    private static void measuresToClean(Due due) {
        due.sentence("measures: 1 to 300");
        for (int measures : new int[] {LEAST, -1, 0, 301, MOST}) {
            GrainLeg leg = Legs.standing(300);
            due.changesNothing(leg, "clean(" + measures + ")", () -> leg.clean(measures), GrainLeg.BAD_VALUE);
        }
        for (int measures : new int[] {1, 2, 299, 300}) {
            GrainLeg leg = Legs.standing(300);
            due.is("clean(" + measures + ")", leg.clean(measures), 300 - measures);
            due.is("in the boot", leg.count(0), 300 - measures);
            due.is("by hand", leg.count(5), measures);
        }
    }

    private static void notSoManyToClean(Due due) {
        due.sentence("NOT_POSSIBLE if .. there are not so many");
        for (int boot : new int[] {0, 1, 150, 299}) {
            GrainLeg leg = Legs.standing(boot);
            due.changesNothing(leg, "clean one more than " + boot, () -> leg.clean(boot + 1), GrainLeg.NOT_POSSIBLE);
            due.is("clean as many as there are", leg.clean(boot), boot == 0 ? GrainLeg.BAD_VALUE : 0);
            due.is("by hand", leg.count(5), boot);
        }
    }

    private static void noCleaningWhereItRuns(Due due) {
        due.sentence("NOT_POSSIBLE if the leg runs");
        GrainLeg leg = Legs.standing(300);
        due.is("start()", leg.start(), 100);
        due.changesNothing(leg, "clean(1)", () -> leg.clean(1), GrainLeg.NOT_POSSIBLE);
        due.is("stop()", leg.stop(), 0);
        due.is("clean(1)", leg.clean(1), 299);
        due.is("clean(1) of a leg that tripped", Legs.trippedForBoot().clean(1), 299);
    }

    private static void ticksToRun(Due due) {
        due.sentence("ticks: 1 to 200");
        for (int ticks : new int[] {LEAST, -1, 0, 201, MOST}) {
            GrainLeg leg = new GrainLeg();
            due.changesNothing(leg, "run(" + ticks + ")", () -> leg.run(ticks), GrainLeg.BAD_VALUE);
        }
        for (int ticks : new int[] {1, 2, 199, 200}) {
            GrainLeg leg = new GrainLeg();
            due.is("run(" + ticks + ")", leg.run(ticks), 0);
            due.is("ticks", leg.count(14), ticks);
        }
    }

    private static void givenOutInThem(Due due) {
        due.sentence("Returns how many measures are given out at the head in them");
        GrainLeg leg = new GrainLeg();
        due.performs(leg, "o,g", 2);
        due.is("run(2)", leg.run(2), 0);
        due.is("run(1)", leg.run(1), 6);
        due.is("run(200), not what was given before", leg.run(200), 1200);
        due.is("given so far", leg.count(2), 1206);
    }

    private static void noMoreThan99999(Due due) {
        due.sentence("FULL if the count of ticks would be more than 99999");
        for (int left : new int[] {0, 1, 2, 199}) {
            GrainLeg leg = Legs.atTick(99999 - left);
            due.is("ticks", leg.count(14), 99999 - left);
            due.changesNothing(leg, "run one more than " + left, () -> leg.run(left + 1), GrainLeg.FULL);
            due.is("run(200)", leg.run(200), GrainLeg.FULL);
            due.is("run as many as are left", leg.run(left), left == 0 ? GrainLeg.BAD_VALUE : 0);
            due.is("ticks", leg.count(14), 99999);
            due.is("run(1)", leg.run(1), GrainLeg.FULL);
        }
        GrainLeg leg = Legs.atTick(99799);
        due.is("run(200)", leg.run(200), 0);
        due.is("ticks", leg.count(14), 99999);
    }

    private static void fullInATextToo(Due due) {
        due.sentence("One whose method would return an error stops it: FULL");
        GrainLeg leg = Legs.atTick(99900);
        due.performs(leg, "w99,w1", GrainLeg.NOT_POSSIBLE);
        due.is("stopped(0)", leg.stopped(0), 1);
        due.is("stopped(1)", leg.stopped(1), GrainLeg.FULL);
        due.is("ticks", leg.count(14), 99900);
        due.performs(leg, "w99", 1);
        due.is("ticks", leg.count(14), 99999);
    }

    private static void placeOfBucket(Due due) {
        due.sentence("place: 0 to 11; UNKNOWN");
        GrainLeg leg = Legs.withFullBuckets(0);
        for (int place : new int[] {LEAST, -12, -1, 12, 13, 24, MOST}) {
            due.is("bucket(" + place + ")", leg.bucket(place), GrainLeg.UNKNOWN);
        }
        for (int place = 0; place <= 11; place++) {
            due.is("bucket(" + place + ")", leg.bucket(place), place <= 5 ? 20 : 0);
        }
    }

    private static void sensorAndWhat(Due due) {
        due.sentence("sensor: 0 to 2; UNKNOWN; BAD_VALUE");
        GrainLeg leg = Legs.trippedForBoot();
        for (int sensor : new int[] {LEAST, -1, 3, MOST}) {
            for (int what : new int[] {-1, 0, 3, 4}) {
                due.is("sensor(" + sensor + ", " + what + ")", leg.sensor(sensor, what), GrainLeg.UNKNOWN);
            }
        }
        for (int sensor = 0; sensor <= 2; sensor++) {
            for (int what : new int[] {LEAST, -1, 4, MOST}) {
                due.is("sensor(" + sensor + ", " + what + ")", leg.sensor(sensor, what), GrainLeg.BAD_VALUE);
            }
        }
        int[][] told = {{0, 0, 3, 0}, {300, 3, 2, 1}, {0, 0, 1, 0}};
        for (int i = 0; i < 12; i++) {
            due.is("sensor(" + i / 4 + ", " + i % 4 + ")", leg.sensor(i / 4, i % 4), told[i / 4][i % 4]);
        }
    }

    private static void whatOfTrip(Due due) {
        due.sentence("BAD_VALUE (back is negative, or what); NONE if there is none");
        GrainLeg leg = Legs.trippedForBoot();
        for (int wrong : new int[] {LEAST, -1}) {
            due.is("trip(" + wrong + ", 0)", leg.trip(wrong, 0), GrainLeg.BAD_VALUE);
            due.is("trip(" + wrong + ", 3)", leg.trip(wrong, 3), GrainLeg.BAD_VALUE);
            due.is("trip(0, " + wrong + ")", leg.trip(0, wrong), GrainLeg.BAD_VALUE);
            due.is("trip(9, " + wrong + ")", leg.trip(9, wrong), GrainLeg.BAD_VALUE);
        }
        due.is("trip(0, 3)", leg.trip(0, 3), GrainLeg.BAD_VALUE);
        due.is("trip(0, most)", leg.trip(0, MOST), GrainLeg.BAD_VALUE);
        int[] told = {9, 1, 100};
        for (int what = 0; what <= 2; what++) {
            due.is("trip(0, " + what + ")", leg.trip(0, what), told[what]);
            due.is("trip(1, " + what + ")", leg.trip(1, what), GrainLeg.NONE);
            due.is("trip(6, " + what + ")", leg.trip(6, what), GrainLeg.NONE);
            due.is("trip(most, " + what + ")", leg.trip(MOST, what), GrainLeg.NONE);
            due.is("trip(0, " + what + ") of none", new GrainLeg().trip(0, what), GrainLeg.NONE);
        }
    }

    private static void whatOfCount(Due due) {
        due.sentence("what: 0 for .. 16 for .., 20 to 24 for the numbers 0 to 4; BAD_VALUE");
        GrainLeg leg = new GrainLeg();
        for (int what : new int[] {LEAST, -1, 17, 18, 19, 25, 26, MOST}) {
            due.is("count(" + what + ")", leg.count(what), GrainLeg.BAD_VALUE);
        }
        due.is("count(0)", leg.count(0), 0);
        due.is("count(16)", leg.count(16), 0);
        due.is("count(20)", leg.count(20), 3);
        due.is("count(24)", leg.count(24), 0);
    }

    private static void reasonOfCount(Due due) {
        due.sentence("13 for the sensor that tripped it (NONE if it did not, or was reset)");
        due.is("count(13) at first", new GrainLeg().count(13), GrainLeg.NONE);
        due.is("count(13) for the slip", Legs.trippedForSlip().count(13), 0);
        due.is("count(13) for the boot", Legs.trippedForBoot().count(13), 1);
        GrainLeg leg = Legs.trippedForWarmth();
        due.is("count(13) for the warmth", leg.count(13), 2);
        due.is("run(60)", leg.run(60), 0);
        due.is("count(13) until it is reset", leg.count(13), 2);
        due.is("reset()", leg.reset(), 2);
        due.is("count(13) when it was reset", leg.count(13), GrainLeg.NONE);
    }

    private static void oneOtherwiseZero(Due due) {
        due.sentence("11 for whether the leg runs, 12 for whether the gate is open (1, otherwise 0)");
        String[] texts = {"x", "g", "o", "g,o", "g,o,s,x"};
        int[][] runsOpen = {{0, 0}, {1, 0}, {0, 1}, {1, 1}, {0, 0}};
        for (int i = 0; i < texts.length; i++) {
            GrainLeg leg = new GrainLeg();
            due.performs(leg, texts[i], texts[i].split(",").length);
            due.is("count(11) behind " + texts[i], leg.count(11), runsOpen[i][0]);
            due.is("count(12) behind " + texts[i], leg.count(12), runsOpen[i][1]);
        }
    }
}
