/** The sentences of 'Terms: sensors' and of the log of trips that name a boundary case, each with a test of its own. */
public final class EdgesOfSensorsTest {
    public static void main(String[] args) {
        Due due = new Due("EdgesOfSensorsTest");
        slipAboveTwenty(due);
        slipWaitsThreeTicks(due);
        bootFrom250(due);
        bootWaitsTwoTicks(due);
        warmthFrom100(due);
        warmthWaitsOneTick(due);
        warmthIsSeenWhenItFell(due);
        otherwiseTheCountBecomes0(due);
        nothingElseChangesACount(due);
        countsWhereItStands(due);
        tripping(due);
        allThreeAtOnce(due);
        slipAndBoot(due);
        slipAndWarmth(due);
        bootAndWarmth(due);
        noStartUntilReset(due);
        resetForSlip(due);
        resetForBoot(due);
        resetForWarmth(due);
        resetAsksForItsReasonAlone(due);
        sixTripsAreKept(due);
        tickOfTrip(due);
        loadBehindTheMoves(due);
        due.end();
    }

    private static void slipAboveTwenty(Due due) {
        due.sentence("0 slip: sees too much if the slip of this tick is above 20");
        int[][] tensionSlipCount = {{50, 0, 0}, {41, 18, 0}, {40, 20, 0}, {39, 22, 1}, {0, 100, 1}};
        for (int[] row : tensionSlipCount) {
            GrainLeg leg = Legs.withBoot(40, 5, row[0]);
            due.is("run(1)", leg.run(1), 0);
            due.is("sensor(0, 0)", leg.sensor(0, 0), row[1]);
            due.is("sensor(0, 1) with a slip of " + row[1], leg.sensor(0, 1), row[2]);
        }
    }

    private static void slipWaitsThreeTicks(Due due) {
        due.sentence("0 slip: waits 3 ticks");
        GrainLeg leg = Legs.withBoot(40, 5, 0);
        due.is("sensor(0, 2)", leg.sensor(0, 2), 3);
        for (int tick = 1; tick <= 3; tick++) {
            due.is("run(1)", leg.run(1), 0);
            due.is("its count", leg.sensor(0, 1), tick);
            due.is("runs behind tick " + tick, leg.count(11), tick < 3 ? 1 : 0);
            due.is("its trips", leg.sensor(0, 3), tick < 3 ? 0 : 1);
        }
        due.is("the sensor that tripped it", leg.count(13), 0);
    }

    private static void bootFrom250(Due due) {
        due.sentence("1 boot: sees too much if the boot has 250 or more");
        int[][] bootCount = {{0, 0}, {249, 0}, {250, 1}, {251, 1}, {280, 1}, {300, 2}};
        for (int[] row : bootCount) {
            GrainLeg leg = Legs.standing(row[0]);
            due.is("sensor(1, 0)", leg.sensor(1, 0), row[0]);
            due.is("sensor(1, 1) with " + row[0], leg.sensor(1, 1), row[1]);
        }
    }

    private static void bootWaitsTwoTicks(Due due) {
        due.sentence("1 boot: waits 2 ticks");
        GrainLeg leg = Legs.withBoot(40, 6, 200);
        due.is("sensor(1, 2)", leg.sensor(1, 2), 2);
        due.performs(leg, "f10,o,w1", 3);
        due.is("its count", leg.sensor(1, 1), 1);
        due.is("runs", leg.count(11), 1);
        due.is("run(1)", leg.run(1), 0);
        due.is("its count", leg.sensor(1, 1), 2);
        due.is("runs", leg.count(11), 0);
        due.is("the sensor that tripped it", leg.count(13), 1);
    }

    private static void warmthFrom100(Due due) {
        due.sentence("2 warmth: sees too much if the warmth is 100 or more");
        GrainLeg leg = new GrainLeg();
        due.performs(leg, "a4,g,w99", 3);
        due.is("sensor(2, 0)", leg.sensor(2, 0), 99);
        due.is("99 are not too much", leg.sensor(2, 1), 0);
        due.is("run(1)", leg.run(1), 0);
        due.is("sensor(2, 0)", leg.sensor(2, 0), 100);
        due.is("100 are", leg.sensor(2, 1), 1);
    }

    private static void warmthWaitsOneTick(Due due) {
        due.sentence("2 warmth: waits 1 tick");
        GrainLeg leg = Legs.rubbing();
        due.is("sensor(2, 2)", leg.sensor(2, 2), 1);
        due.is("run(2)", leg.run(2), 0);
        due.is("runs", leg.count(11), 1);
        due.is("run(1)", leg.run(1), 0);
        due.is("its count", leg.sensor(2, 1), 1);
        due.is("runs", leg.count(11), 0);
        due.is("the sensor that tripped it", leg.count(13), 2);
    }

    /** From 98 it grows to 101 and falls to 99; then by two cells, from 99 to 101 and back, in each tick. */
    private static void warmthIsSeenWhenItFell(Due due) {
        due.sentence("The warmth grows .. and then falls by 2 .. The sensors watch");
        GrainLeg leg = new GrainLeg();
        due.performs(leg, "a4,g,w98,d3", 4);
        due.is("warmth", leg.count(10), 98);
        due.is("run(1): 101 less 2", leg.run(1), 0);
        due.is("warmth", leg.count(10), 99);
        due.is("runs", leg.count(11), 1);
        due.performs(leg, "d2,w9", 2);
        due.is("101 less 2, again and again", leg.count(10), 99);
        due.is("runs", leg.count(11), 1);
    }

    private static void otherwiseTheCountBecomes0(Due due) {
        due.sentence("each one that sees too much counts one tick more, otherwise its count becomes 0");
        GrainLeg leg = Legs.withBoot(40, 5, 39);
        due.is("run(2)", leg.run(2), 0);
        due.is("slip's count", leg.sensor(0, 1), 2);
        due.performs(leg, "t40,w1", 2);
        due.is("a slip of 20: slip's count", leg.sensor(0, 1), 0);
        due.performs(leg, "t39,w2", 2);
        due.is("it begins anew", leg.count(11), 1);
        due.is("run(1)", leg.run(1), 0);
        due.is("three ticks on end", leg.count(11), 0);
        GrainLeg boot = Legs.standing(300);
        due.is("boot's count", boot.sensor(1, 1), 2);
        due.is("clean(51)", boot.clean(51), 249);
        due.is("run(1)", boot.run(1), 0);
        due.is("boot's count with 249", boot.sensor(1, 1), 0);
        GrainLeg warm = Legs.trippedForWarmth();
        due.is("run(1)", warm.run(1), 0);
        due.is("warmth's count with 100", warm.sensor(2, 1), 2);
        due.is("run(1)", warm.run(1), 0);
        due.is("warmth's count with 98", warm.sensor(2, 1), 0);
    }

    private static void nothingElseChangesACount(Due due) {
        due.sentence("nothing else changes it");
        GrainLeg leg = Legs.withBoot(40, 5, 39);
        due.is("run(2)", leg.run(2), 0);
        due.performs(leg, "t200,f0,o,x,s,g,s", 7);
        due.is("slip's count", leg.sensor(0, 1), 2);
        due.is("clean(200)", leg.clean(200), 0);
        due.is("slip's count", leg.sensor(0, 1), 2);
        due.is("start()", leg.start(), 0);
        due.is("tripsIn()", leg.tripsIn(), GrainLeg.NONE);
        due.is("leastTension(9)", leg.leastTension(9), 0);
        due.is("ifTension(0, 9)", leg.ifTension(0, 9), 0);
        due.is("slip's count", leg.sensor(0, 1), 2);
        GrainLeg tripped = Legs.trippedForBoot();
        due.is("boot's count", tripped.sensor(1, 1), 3);
        due.is("clean(300)", tripped.clean(300), 0);
        due.is("reset()", tripped.reset(), 1);
        due.is("boot's count", tripped.sensor(1, 1), 3);
        due.is("boot's trips", tripped.sensor(1, 3), 1);
        due.is("start()", tripped.start(), 0);
        due.is("boot's count", tripped.sensor(1, 1), 3);
        due.is("run(1)", tripped.run(1), 0);
        due.is("boot's count", tripped.sensor(1, 1), 0);
        due.is("it runs on", tripped.count(11), 1);
    }

    private static void countsWhereItStands(Due due) {
        due.sentence("if the count has reached as many ticks as the sensor waits, and the leg runs, it trips");
        GrainLeg leg = Legs.standing(300);
        due.is("run(5)", leg.run(5), 0);
        due.is("more than it waits", leg.sensor(1, 1), 7);
        due.is("no trip where it stands", leg.count(13), GrainLeg.NONE);
        due.is("nor in its count", leg.sensor(1, 3), 0);
        due.performs(leg, "d0,t200,o,g", 4);
        due.is("no trip before a tick", leg.count(11), 1);
        due.is("tripsIn()", leg.tripsIn(), 1);
        due.is("run(1)", leg.run(1), 0);
        due.is("it trips at once", leg.count(13), 1);
        due.is("its trips", leg.sensor(1, 3), 1);
        due.is("run(9)", leg.run(9), 0);
        due.is("no second trip where it stands", leg.sensor(1, 3), 1);
    }

    private static void tripping(Due due) {
        due.sentence("the leg stands, the gate is closed, and this is the reason");
        GrainLeg leg = Legs.withBoot(40, 5, 0);
        due.performs(leg, "f1,o,w2", 3);
        due.is("fed", leg.count(4), 202);
        due.is("runs", leg.count(11), 1);
        due.is("open", leg.count(12), 1);
        due.is("reason", leg.count(13), GrainLeg.NONE);
        due.is("run(9)", leg.run(9), 0);
        due.is("runs", leg.count(11), 0);
        due.is("open", leg.count(12), 0);
        due.is("reason", leg.count(13), 0);
        due.is("fed in the tick of the trip, and not behind it", leg.count(4), 203);
        due.is("no cells behind it", leg.count(9), 0);
    }

    /** Rubbed to a warmth of 68, which falls by 12 while 240 come into the boot. The buckets take 1 each. */
    private static GrainLeg heavyAndWarm(Due due, String settings, int commands) {
        GrainLeg leg = new GrainLeg();
        due.performs(leg, "d6,a9,c1,g,w2,s,f40,o,w6", 9);
        due.is("warmth", leg.count(10), 2 * 34 - 6 * 2);
        due.is("boot", leg.count(0), 240);
        due.performs(leg, settings, commands);
        return leg;
    }

    private static void isTrippedBy(Due due, GrainLeg leg, int reason, int[] counts) {
        due.is("reason", leg.count(13), reason);
        for (int sensor = 0; sensor < 3; sensor++) {
            due.is("count of " + sensor, leg.sensor(sensor, 1), counts[sensor]);
            due.is("trips of " + sensor, leg.sensor(sensor, 3), sensor == reason ? 1 : 0);
        }
        due.is("in the log", leg.trip(0, 1), reason);
        due.is("once in the log", leg.trip(1, 1), GrainLeg.NONE);
    }

    private static void allThreeAtOnce(Due due) {
        due.sentence("sensors behind it watch, too, but do not trip any more: all three");
        GrainLeg leg = heavyAndWarm(due, "f9,t60,g,w2", 4);
        due.is("warmth", leg.count(10), 56 + 22 + 16);
        due.is("runs", leg.count(11), 1);
        due.is("run(1): three buckets of 1", leg.run(1), 3);
        isTrippedBy(due, leg, 0, new int[] {3, 2, 1});
        due.is("run(1): they watch where it stands", leg.run(1), 0);
        isTrippedBy(due, leg, 0, new int[] {0, 3, 2});
    }

    private static void slipAndBoot(Due due) {
        due.sentence("sensors behind it watch, too, but do not trip any more: slip and boot");
        GrainLeg leg = Legs.withBoot(40, 6, 0);
        due.performs(leg, "f5,o,w2", 3);
        due.is("runs", leg.count(11), 1);
        due.is("run(1)", leg.run(1), 0);
        isTrippedBy(due, leg, 0, new int[] {3, 2, 0});
    }

    private static void slipAndWarmth(Due due) {
        due.sentence("sensors behind it watch, too, but do not trip any more: slip and warmth");
        GrainLeg leg = heavyAndWarm(due, "x,w6,t55,g,w2", 5);
        due.is("warmth", leg.count(10), 44 + 2 * 22);
        due.is("runs", leg.count(11), 1);
        due.is("run(1): four buckets of 1", leg.run(1), 4);
        isTrippedBy(due, leg, 0, new int[] {3, 0, 1});
    }

    private static void bootAndWarmth(Due due) {
        due.sentence("sensors behind it watch, too, but do not trip any more: boot and warmth");
        GrainLeg leg = heavyAndWarm(due, "f20,t200,g,w1", 4);
        due.is("warmth", leg.count(10), 56 + 34);
        due.is("runs", leg.count(11), 1);
        due.is("run(1): six buckets of 1", leg.run(1), 6);
        isTrippedBy(due, leg, 1, new int[] {0, 2, 1});
    }

    private static void noStartUntilReset(Due due) {
        due.sentence("A leg that tripped cannot be started until it is reset");
        GrainLeg leg = Legs.trippedForSlip();
        due.changesNothing(leg, "start()", () -> leg.start(), GrainLeg.NOT_POSSIBLE);
        due.is("set(1, 50): it could be reset", leg.set(1, 50), 0);
        due.changesNothing(leg, "start()", () -> leg.start(), GrainLeg.NOT_POSSIBLE);
        due.is("reset()", leg.reset(), 0);
        due.is("start()", leg.start(), 50);
        due.is("runs", leg.count(11), 1);
    }

    private static void resetForSlip(Due due) {
        due.sentence("It can be reset for the slip if the load (as it would be) is at most the tension");
        GrainLeg leg = Legs.trippedForSlip();
        due.is("the load", leg.count(7), 50);
        due.performs(leg, "t49", 1);
        due.changesNothing(leg, "reset() with tension 49", () -> leg.reset(), GrainLeg.NOT_POSSIBLE);
        due.performs(leg, "t50", 1);
        due.is("reset() with tension 50", leg.reset(), 0);
        GrainLeg cleaned = Legs.trippedForSlip();
        due.performs(cleaned, "t49", 1);
        due.is("clean(1): 199 have a load of 49", cleaned.clean(1), 199);
        due.is("reset()", cleaned.reset(), 0);
        GrainLeg empty = Legs.trippedForSlip();
        due.is("clean(98)", empty.clean(98), 102);
        due.is("reset() with load 1, tension 0", empty.reset(), GrainLeg.NOT_POSSIBLE);
        due.is("clean(1)", empty.clean(1), 101);
        due.is("reset() with load 0, tension 0", empty.reset(), 0);
    }

    private static void resetForBoot(Due due) {
        due.sentence("for the boot if the boot has less than 150");
        GrainLeg leg = Legs.trippedForBoot();
        due.is("clean(150)", leg.clean(150), 150);
        due.changesNothing(leg, "reset() with 150", () -> leg.reset(), GrainLeg.NOT_POSSIBLE);
        due.is("clean(1)", leg.clean(1), 149);
        due.is("reset() with 149", leg.reset(), 1);
        due.changesNothing(leg, "reset() again", () -> leg.reset(), GrainLeg.NONE);
    }

    private static void resetForWarmth(Due due) {
        due.sentence("for the warmth if the warmth is less than 50");
        GrainLeg leg = new GrainLeg();
        due.performs(leg, "a4,g,w99,a5,w1", 5);
        due.is("tripped with 103", leg.count(13), 2);
        due.is("run(26)", leg.run(26), 0);
        due.changesNothing(leg, "reset() with 51", () -> leg.reset(), GrainLeg.NOT_POSSIBLE);
        due.is("run(1)", leg.run(1), 0);
        due.is("reset() with 49", leg.reset(), 2);
        GrainLeg even = Legs.trippedForWarmth();
        due.is("run(26)", even.run(26), 0);
        due.changesNothing(even, "reset() with 50", () -> even.reset(), GrainLeg.NOT_POSSIBLE);
        due.is("run(1)", even.run(1), 0);
        due.is("reset() with 48", even.reset(), 2);
    }

    private static void resetAsksForItsReasonAlone(Due due) {
        due.sentence("It can be reset for the slip if .., for the boot if .., for the warmth if ..");
        GrainLeg slip = heavyAndWarm(due, "f9,t60,g,w3,t200", 5);
        due.is("boot", slip.count(0), 257);
        due.is("warmth", slip.count(10), 110);
        due.is("reset() for the slip with much in the boot, and warm", slip.reset(), 0);
        GrainLeg boot = heavyAndWarm(due, "f20,t200,g,w2,t0", 5);
        due.is("clean(119)", boot.clean(119), 149);
        due.is("warmth", boot.count(10), 124);
        due.is("reset() for the boot with a load, and warm", boot.reset(), 1);
        GrainLeg warmth = Legs.trippedForWarmth();
        due.is("run(27)", warmth.run(27), 0);
        due.performs(warmth, "t0,s", 2);
        due.is("reset() for the warmth", warmth.reset(), 2);
    }

    /** Each time it runs for three ticks, and takes 18 from a boot of 240 until the warmth trips it. */
    private static GrainLeg trippedSoOften(Due due, int trips) {
        GrainLeg leg = Legs.standing(240);
        due.performs(leg, "d6,t200,c1,a9", 4);
        for (int trip = 0; trip < trips; trip++) {
            leg.run(60);
            leg.reset();
            leg.start();
            leg.run(3);
        }
        return leg;
    }

    private static void sixTripsAreKept(Due due) {
        due.sentence("Looks back at the latest 6 trips");
        for (int trips = 1; trips <= 8; trips++) {
            GrainLeg leg = trippedSoOften(due, trips);
            due.is("trips", leg.sensor(2, 3), trips);
            for (int back = 0; back <= 8; back++) {
                boolean isKept = back < Math.min(6, trips);
                int number = trips - back;
                due.is("trip(" + back + ", 0) of " + trips, leg.trip(back, 0), isKept ? 6 + 63 * number : GrainLeg.NONE);
                due.is("trip(" + back + ", 1) of " + trips, leg.trip(back, 1), isKept ? 2 : GrainLeg.NONE);
                due.is("trip(" + back + ", 2) of " + trips, leg.trip(back, 2),
                    isKept ? 5 + Math.max(0, 70 - 9 * number) : GrainLeg.NONE);
            }
        }
        GrainLeg none = new GrainLeg();
        due.is("trip(0, 0) of none", none.trip(0, 0), GrainLeg.NONE);
        due.is("trip(5, 2) of none", none.trip(5, 2), GrainLeg.NONE);
    }

    private static void tickOfTrip(Due due) {
        due.sentence("0 for the tick, counted from 1");
        GrainLeg leg = Legs.standing(300);
        int before = leg.count(14);
        due.performs(leg, "d0,t200,g,w9", 4);
        due.is("in the first tick that it runs", leg.trip(0, 0), before + 1);
        GrainLeg late = Legs.atTick(99996);
        due.performs(late, "d6,a9,g,w3", 4);
        due.is("in the last tick of all", late.trip(0, 0), 99999);
    }

    /** In the tick of its trip it slips by a load of 100; then the buckets take, and what they have is more. */
    private static void loadBehindTheMoves(Due due) {
        due.sentence("2 for the load as it was behind the moves of that tick");
        GrainLeg leg = Legs.standing(300);
        due.performs(leg, "d1,t200,c20,g,w1", 5);
        due.is("reason", leg.count(13), 1);
        due.is("20 less in the boot, and none on the way up yet", leg.trip(0, 2), 90);
        due.is("clean(200)", leg.clean(200), 80);
        due.is("the load as it is", leg.count(7), 0);
        due.is("the load as it was", leg.trip(0, 2), 90);
    }
}
