/** Promises 8, 17 and 21: what the sensors see, when they trip the leg, and the log of trips. */
public final class SensorsTest {
    public static void main(String[] args) {
        Due due = new Due("SensorsTest");
        slip(due);
        boot(due);
        warmth(due);
        countsWhereItStands(due);
        slipBeforeBoot(due);
        log(due);
        wrongArguments(due);
        due.end();
    }

    private static void slip(Due due) {
        GrainLeg enough = Legs.withBoot(40, 5, 40);
        due.is("run(9)", enough.run(9), 0);
        due.is("a slip of 20", enough.sensor(0, 0), 20);
        due.is("is not too much", enough.sensor(0, 1), 0);
        due.is("it runs", enough.count(11), 1);
        GrainLeg leg = Legs.withBoot(40, 5, 39);
        due.is("it waits", leg.sensor(0, 2), 3);
        due.is("run(2)", leg.run(2), 0);
        due.is("a slip of 22", leg.sensor(0, 0), 22);
        due.is("its count", leg.sensor(0, 1), 2);
        due.is("it runs", leg.count(11), 1);
        due.is("no trip yet", leg.sensor(0, 3), 0);
        due.is("set(1, 40)", leg.set(1, 40), 39);
        due.is("a call changes no count", leg.sensor(0, 1), 2);
        due.is("run(1)", leg.run(1), 0);
        due.is("its count begins anew", leg.sensor(0, 1), 0);
        due.is("set(1, 0)", leg.set(1, 0), 40);
        due.is("run(3)", leg.run(3), 0);
        due.is("it stands", leg.count(11), 0);
        due.is("reason", leg.count(13), 0);
        due.is("the slip of its tick", leg.sensor(0, 0), 100);
        due.is("its count stays", leg.sensor(0, 1), 3);
        due.is("trips", leg.sensor(0, 3), 1);
        due.is("run(1)", leg.run(1), 0);
        due.is("no slip where it stands", leg.sensor(0, 0), 0);
        due.is("its count", leg.sensor(0, 1), 0);
    }

    private static void boot(Due due) {
        GrainLeg enough = new GrainLeg();
        due.performs(enough, "d0,t200,f40,o,w6,f9,w1,x,g,w9", 10);
        due.is("249", enough.sensor(1, 0), 249);
        due.is("are not too much", enough.sensor(1, 1), 0);
        GrainLeg leg = new GrainLeg();
        due.performs(leg, "d0,t200,f40,o,w6,f10,g,w1", 8);
        due.is("it waits", leg.sensor(1, 2), 2);
        due.is("250", leg.sensor(1, 0), 250);
        due.is("its count", leg.sensor(1, 1), 1);
        due.is("it runs", leg.count(11), 1);
        due.is("the gate is open", leg.count(12), 1);
        due.is("run(1)", leg.run(1), 0);
        due.is("it stands", leg.count(11), 0);
        due.is("the gate is closed", leg.count(12), 0);
        due.is("reason", leg.count(13), 1);
        due.is("boot", leg.sensor(1, 0), 260);
        due.is("run(3)", leg.run(3), 0);
        due.is("boot", leg.sensor(1, 0), 260);
        due.is("it watches on", leg.sensor(1, 1), 5);
        due.is("it trips once", leg.sensor(1, 3), 1);
    }

    private static void warmth(Due due) {
        GrainLeg leg = Legs.rubbing();
        due.is("it waits", leg.sensor(2, 2), 1);
        due.is("run(2)", leg.run(2), 0);
        due.is("warmth", leg.sensor(2, 0), 68);
        due.is("its count", leg.sensor(2, 1), 0);
        due.is("run(5)", leg.run(5), 0);
        due.is("it tripped in tick 3, and cooled", leg.sensor(2, 0), 102 - 4 * 2);
        due.is("trips", leg.sensor(2, 3), 1);
        due.is("the tick", leg.trip(0, 0), 3);
        due.is("the sensor", leg.trip(0, 1), 2);
        due.is("the load", leg.trip(0, 2), 0);
        // 10 a tick: exactly 100 in the tenth.
        GrainLeg exactly = new GrainLeg();
        due.performs(exactly, "d6,a5,g,w9", 4);
        due.is("90", exactly.sensor(2, 0), 90);
        due.is("runs", exactly.count(11), 1);
        due.is("run(1)", exactly.run(1), 0);
        due.is("100 trip it", exactly.count(13), 2);
        due.is("100", exactly.sensor(2, 0), 100);
    }

    private static void countsWhereItStands(Due due) {
        GrainLeg leg = new GrainLeg();
        due.performs(leg, "t200,d0,f40,o,w8", 5);
        due.is("its count", leg.sensor(1, 1), 2);
        due.is("no trip where it stands", leg.count(13), GrainLeg.NONE);
        due.is("the gate stays open", leg.count(12), 1);
        due.is("start()", leg.start(), 100);
        due.is("it starts in no tick", leg.count(11), 1);
        due.is("run(1)", leg.run(1), 0);
        due.is("it trips at once", leg.count(13), 1);
        due.is("its count", leg.sensor(1, 1), 3);
    }

    /** In tick 9 the slip is seen for the third time and the boot for the second: the slip is the reason. */
    private static void slipBeforeBoot(Due due) {
        GrainLeg leg = new GrainLeg();
        due.performs(leg, "t0,d0,f40,o,w6,f5,g,w2", 8);
        due.is("slip's count", leg.sensor(0, 1), 2);
        due.is("boot's count", leg.sensor(1, 1), 1);
        due.is("run(1)", leg.run(1), 0);
        due.is("slip's count", leg.sensor(0, 1), 3);
        due.is("boot's count", leg.sensor(1, 1), 2);
        due.is("reason", leg.count(13), 0);
        due.is("slip's trips", leg.sensor(0, 3), 1);
        due.is("boot's trips", leg.sensor(1, 3), 0);
        due.is("the tick", leg.trip(0, 0), 9);
        due.is("one trip only", leg.trip(1, 0), GrainLeg.NONE);
        due.is("run(1)", leg.run(1), 0);
        due.is("boot's count", leg.sensor(1, 1), 3);
        due.is("reason", leg.count(13), 0);
    }

    /** A trip for the boot in tick 9, then seven for the warmth, each with a load of its own. */
    private static void log(Due due) {
        GrainLeg leg = Legs.trippedForBoot();
        due.is("the tick", leg.trip(0, 0), 9);
        due.is("the sensor", leg.trip(0, 1), 1);
        due.is("the load", leg.trip(0, 2), 100);
        due.is("no earlier one", leg.trip(1, 0), GrainLeg.NONE);
        due.is("clean(151)", leg.clean(151), 149);
        due.is("reset()", leg.reset(), 1);
        due.performs(leg, "c1,a9,d6", 3);
        int[] ticks = new int[7];
        int[] loads = new int[7];
        for (int i = 0; i < 7; i++) {
            due.is("start()", leg.start(), i == 0 ? 24 : loads[i - 1]);
            due.is("run(3)", leg.run(3), i == 0 ? 12 : 18);
            ticks[i] = leg.count(14);
            loads[i] = leg.count(7);
            due.is("the load behind the moves", leg.trip(0, 2), loads[i]);
            due.performs(leg, "w60,r", 2);
        }
        for (int back = 0; back < 6; back++) {
            due.is("trip(" + back + ", 0)", leg.trip(back, 0), ticks[6 - back]);
            due.is("trip(" + back + ", 1)", leg.trip(back, 1), 2);
            due.is("trip(" + back + ", 2)", leg.trip(back, 2), loads[6 - back]);
        }
        due.is("first of the seven", ticks[0], 12);
        due.is("last of the seven", ticks[6], 12 + 6 * 63);
        // Five buckets of 1 on the way up, and 131 in the boot, then 113, then less than 100.
        due.is("load of the first of the seven", loads[0], 5 + 15);
        due.is("load of the second", loads[1], 5 + 6);
        due.is("load of the last", loads[6], 5);
        due.is("trip(6, 0)", leg.trip(6, 0), GrainLeg.NONE);
        due.is("trip(most, 2)", leg.trip(Integer.MAX_VALUE, 2), GrainLeg.NONE);
        due.is("boot's trips", leg.sensor(1, 3), 1);
        due.is("warmth's trips", leg.sensor(2, 3), 7);
        due.is("slip's trips", leg.sensor(0, 3), 0);
    }

    private static void wrongArguments(Due due) {
        GrainLeg leg = Legs.trippedForSlip();
        int[] wrong = {-1, Integer.MIN_VALUE, Integer.MAX_VALUE, 3};
        for (int what : wrong) {
            due.is("sensor(" + what + ", 0)", leg.sensor(what, 0), GrainLeg.UNKNOWN);
            due.is("sensor(" + what + ", 9): UNKNOWN comes first", leg.sensor(what, 9), GrainLeg.UNKNOWN);
            due.is("trip(0, " + what + ")", leg.trip(0, what), GrainLeg.BAD_VALUE);
            due.is("trip(5, " + what + "): BAD_VALUE comes first", leg.trip(5, what), GrainLeg.BAD_VALUE);
        }
        for (int sensor = 0; sensor < 3; sensor++) {
            due.is("sensor(" + sensor + ", -1)", leg.sensor(sensor, -1), GrainLeg.BAD_VALUE);
            due.is("sensor(" + sensor + ", 4)", leg.sensor(sensor, 4), GrainLeg.BAD_VALUE);
            due.is("trip(-1, " + sensor + ")", leg.trip(-1, sensor), GrainLeg.BAD_VALUE);
        }
        due.is("trip(least, 0)", leg.trip(Integer.MIN_VALUE, 0), GrainLeg.BAD_VALUE);
        due.is("trip(0, 2)", leg.trip(0, 2), 50);
    }
}
