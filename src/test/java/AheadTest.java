import java.util.Arrays;

/** Promises 18 to 20: tripsIn, ifTension, leastTension; and that looking ahead changes nothing. */
public final class AheadTest {
    public static void main(String[] args) {
        Due due = new Due("AheadTest");
        tripsIn(due);
        tripsInLong(due);
        ifTension(due);
        ifTensionAsItComes(due);
        leastTension(due);
        leastTensionAmongMore(due);
        wrongArguments(due);
        due.end();
    }

    private static void tripsIn(Due due) {
        due.is("it stands", new GrainLeg().tripsIn(), GrainLeg.NOT_POSSIBLE);
        due.is("it tripped", Legs.trippedForSlip().tripsIn(), GrainLeg.NOT_POSSIBLE);
        due.is("for the slip", Legs.withBoot(40, 5, 0).tripsIn(), 3);
        due.is("for the boot", Legs.withBoot(40, 8, 200).tripsIn(), 1);
        due.is("not at all", Legs.withBoot(40, 5, 200).tripsIn(), GrainLeg.NONE);
        GrainLeg leg = Legs.rubbing();
        int[] before = Told.all(leg);
        due.is("for the warmth", leg.tripsIn(), 3);
        due.isTrue("nothing changed", Arrays.equals(before, Told.all(leg)));
        due.is("no act", leg.count(15), 3);
        due.is("run(1)", leg.run(1), 0);
        due.is("one tick less", leg.tripsIn(), 2);
        due.is("run(1)", leg.run(1), 0);
        due.is("in the next tick", leg.tripsIn(), 1);
        due.is("undo()", leg.undo(), 3);
        due.is("two ticks again", leg.tripsIn(), 2);
        GrainLeg warm = new GrainLeg();
        due.performs(warm, "a4,g", 2);
        due.is("1 of warmth in a tick", warm.tripsIn(), 100);
    }

    /** Trips that come late: one by a belt that slips now and then, one by a boot that fills slowly. */
    private static void tripsInLong(Due due) {
        GrainLeg leg = new GrainLeg();
        due.performs(leg, "f9,o,w3,f35,c20,t78,g,w22,a4", 9);
        int expected = 298;
        due.is("late", leg.tripsIn(), expected);
        due.is("run(200)", leg.count(11), 1);
        leg.run(200);
        due.is("200 ticks later", leg.tripsIn(), expected - 200);
        leg.run(expected - 201);
        due.is("in the tick before", leg.count(11), 1);
        leg.run(1);
        due.is("it trips in this tick", leg.count(13), 2);
        due.is("its tick", leg.trip(0, 0), 25 + expected);
        GrainLeg filling = new GrainLeg();
        due.performs(filling, "d0,t200,f1,o,g", 5);
        due.is("250 in tick 250, and one more", filling.tripsIn(), 251);
        due.performs(filling, "f0", 1);
        due.is("never", filling.tripsIn(), GrainLeg.NONE);
    }

    private static void ifTension(Due due) {
        GrainLeg leg = new GrainLeg();
        due.is("it stands", leg.ifTension(0, 200), 0);
        due.performs(leg, "o,g,w9", 3);
        int[] before = Told.all(leg);
        due.is("without slip", leg.ifTension(12, 10), 60);
        due.is("its own tension", leg.ifTension(60, 10), 60);
        // A load of 12 slips by 24, which leaves two cells of three: 6, 6 and 0 come out until it trips.
        due.is("tension 0: it trips in the third tick", leg.ifTension(0, 10), 12);
        due.isTrue("nothing changed", Arrays.equals(before, Told.all(leg)));
        due.is("no act", leg.count(15), 1);
        GrainLeg full = Legs.withBoot(40, 5, 200);
        due.performs(full, "d1", 1);
        due.is("tension 50: the belt comes to rest when buckets rise", full.ifTension(50, 7), 0);
        due.is("tension 200: the first bucket gives half", full.ifTension(200, 7), 4);
        due.is("tension 0: it trips", full.ifTension(0, 200), 0);
        due.is("it runs on", full.count(11), 1);
    }

    /** What is told for each tension is what comes when it is set and the ticks pass. */
    private static void ifTensionAsItComes(Due due) {
        GrainLeg leg = new GrainLeg();
        due.performs(leg, "d5,f23,c9,a5,o,g,w4", 7);
        leg.keep();
        int differing = 0;
        for (int tension = 0; tension <= 60; tension += 4) {
            for (int ticks = 1; ticks <= 200; ticks += 39) {
                int told = leg.ifTension(tension, ticks);
                leg.set(1, tension);
                int given = leg.run(ticks);
                due.is("ifTension(" + tension + ", " + ticks + ")", told, given);
                differing += given != leg.ifTension(200, ticks) ? 1 : 0;
                leg.restore();
            }
        }
        due.isTrue("the tension matters", differing > 0);
    }

    private static void leastTension(Due due) {
        due.is("it stands", new GrainLeg().leastTension(9), GrainLeg.NOT_POSSIBLE);
        GrainLeg leg = Legs.withBoot(40, 5, 0);
        int[] before = Told.all(leg);
        due.is("load 50, and a slip of 20 is not too much", leg.leastTension(3), 40);
        due.is("in 2 ticks it does not trip", leg.leastTension(2), 0);
        due.is("run(2)", leg.run(2), 0);
        due.is("in 1 more it would", leg.leastTension(1), 40);
        due.is("undo()", leg.undo(), 3);
        due.isTrue("nothing changed", Arrays.equals(before, Told.all(leg)));
        due.is("with each tension", Legs.withBoot(40, 8, 0).leastTension(1), GrainLeg.NONE);
        GrainLeg warm = new GrainLeg();
        due.performs(warm, "a4,g", 2);
        due.is("it trips in tick 100", warm.leastTension(99), 0);
        due.is("it trips in tick 100", warm.leastTension(100), GrainLeg.NONE);
        due.is("ticks", warm.count(14), 0);
        due.is("tension", warm.count(21), 60);
    }

    /** A tension of 200 trips, too, for the warmth: the least one is not where trips end. */
    private static void leastTensionAmongMore(Due due) {
        GrainLeg leg = new GrainLeg();
        due.performs(leg, "d6,f28,c19,t200,a4,o,g,w8", 8);
        int trips = leg.tripsIn();
        due.isTrue("200 trips", trips > 0 && trips <= 19);
        leg.keep();
        int least = GrainLeg.NONE;
        for (int tension = 200; tension >= 0; tension--) {
            leg.set(1, tension);
            int in = leg.tripsIn();
            least = in == GrainLeg.NONE || in > 19 ? tension : least;
        }
        leg.restore();
        due.is("leastTension(19)", leg.leastTension(19), least);
        due.is("the least", least, 18);
    }

    private static void wrongArguments(Due due) {
        GrainLeg leg = Legs.rubbing();
        int[] wrong = {0, -1, 101, Integer.MIN_VALUE, Integer.MAX_VALUE};
        for (int ticks : wrong) {
            due.is("leastTension(" + ticks + ")", leg.leastTension(ticks), GrainLeg.BAD_VALUE);
            due.is("BAD_VALUE comes first", new GrainLeg().leastTension(ticks), GrainLeg.BAD_VALUE);
            int more = ticks == 101 ? 201 : ticks;
            due.is("ifTension(9, " + more + ")", leg.ifTension(9, more), GrainLeg.BAD_VALUE);
        }
        int[] tensions = {-1, 201, Integer.MIN_VALUE, Integer.MAX_VALUE};
        for (int tension : tensions) {
            due.is("ifTension(" + tension + ", 9)", leg.ifTension(tension, 9), GrainLeg.BAD_VALUE);
        }
        due.is("ifTension(0, 1)", leg.ifTension(0, 1), 0);
        due.is("ifTension(200, 200)", leg.ifTension(200, 200), 0);
        due.is("leastTension(1)", leg.leastTension(1), 0);
    }
}
