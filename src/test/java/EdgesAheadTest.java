/** The sentences of promises 18 to 20 that name a boundary case, each with a test of its own. */
public final class EdgesAheadTest {
    private static final int LEAST = Integer.MIN_VALUE;
    private static final int MOST = Integer.MAX_VALUE;

    public static void main(String[] args) {
        Due due = new Due("EdgesAheadTest");
        inOneTick(due);
        inThreeHundredTicks(due);
        notByThen(due);
        notWhereItStands(due);
        ifOnlyTicksPass(due);
        tensionsAndTicksOfIf(due);
        givenOutIf(due);
        ifWhereItStands(due);
        ticksOfLeast(due);
        leastIsZero(due);
        leastIsTwoHundred(due);
        noneWithEachOne(due);
        leastWhereItStands(due);
        oneTensionLessTrips(due);
        moreTensionTripsToo(due);
        theLastTickCounts(due);
        nothingChanges(due);
        beyondTheLastTick(due);
        due.end();
    }

    private static void inOneTick(Due due) {
        due.sentence("Tells in how many ticks the leg would trip");
        due.is("for the boot", Legs.withBoot(40, 8, 200).tripsIn(), 1);
        GrainLeg slip = Legs.withBoot(40, 5, 0);
        due.is("for the slip", slip.tripsIn(), 3);
        due.is("run(2)", slip.run(2), 0);
        due.is("for the slip", slip.tripsIn(), 1);
        due.is("run(1)", slip.run(1), 0);
        due.is("it tripped", slip.tripsIn(), GrainLeg.NOT_POSSIBLE);
    }

    /**
     * One cell, three and three again, so that it gains 1 of warmth in three ticks: the greatest of
     * each three is in the last one, from tick 3 on, and the hundredth of these is tick 300.
     */
    private static GrainLeg slowlyRubbing(Due due) {
        GrainLeg leg = new GrainLeg();
        due.performs(leg, "d1,c20,t200,o,g,f10,w1,f12,w1,f20,w1,f19,w1,f9,w1,f5,w1", 17);
        due.performs(leg, "s,f8,w1,c17,f31,t67,d3,a4,g", 9);
        return leg;
    }

    private static void inThreeHundredTicks(Due due) {
        due.sentence("Returns the number of ticks, up to 300");
        GrainLeg leg = slowlyRubbing(due);
        due.is("tripsIn()", leg.tripsIn(), 300);
        due.is("run(1)", leg.run(1) >= 0 ? 1 : 0, 1);
        due.is("tripsIn()", leg.tripsIn(), 299);
        leg.run(200);
        due.is("tripsIn()", leg.tripsIn(), 99);
        leg.run(98);
        due.is("runs in the tick before", leg.count(11), 1);
        due.is("warmth", leg.count(10), 99);
        leg.run(1);
        due.is("trips in this tick", leg.count(13), 2);
        due.is("its tick", leg.trip(0, 0), 7 + 300);
    }

    private static void notByThen(Due due) {
        due.sentence("NONE if it does not trip by then");
        GrainLeg leg = new GrainLeg();
        due.is("start()", leg.start(), 0);
        due.is("an empty leg", leg.tripsIn(), GrainLeg.NONE);
        due.is("run(200)", leg.run(200), 0);
        due.is("run(101)", leg.run(101), 0);
        due.is("runs", leg.count(11), 1);
        GrainLeg cool = new GrainLeg();
        due.performs(cool, "d2,a4,g", 3);
        due.is("2 of warmth come and go", cool.tripsIn(), GrainLeg.NONE);
        due.is("a slip of 20", Legs.withBoot(40, 5, 40).tripsIn(), GrainLeg.NONE);
    }

    private static void notWhereItStands(Due due) {
        due.sentence("NOT_POSSIBLE if it stands");
        due.is("tripsIn() at first", new GrainLeg().tripsIn(), GrainLeg.NOT_POSSIBLE);
        due.is("tripsIn() with a full boot", Legs.standing(300).tripsIn(), GrainLeg.NOT_POSSIBLE);
        due.is("tripsIn() of a leg that tripped", Legs.trippedForBoot().tripsIn(), GrainLeg.NOT_POSSIBLE);
    }

    private static void ifOnlyTicksPass(Due due) {
        due.sentence("if only ticks pass");
        GrainLeg leg = new GrainLeg();
        due.performs(leg, "d0,t200,f40,o,g", 5);
        due.is("the gate feeds on: 280 and 300", leg.tripsIn(), 8);
        due.is("gate(false)", leg.gate(false), 0);
        due.is("tripsIn()", leg.tripsIn(), GrainLeg.NONE);
    }

    private static void tensionsAndTicksOfIf(Due due) {
        due.sentence("tension: 0 to 200, ticks: 1 to 200; BAD_VALUE");
        GrainLeg leg = new GrainLeg();
        due.performs(leg, "o,g", 2);
        for (int tension : new int[] {LEAST, -1, 201, MOST}) {
            due.is("ifTension(" + tension + ", 1)", leg.ifTension(tension, 1), GrainLeg.BAD_VALUE);
            due.is("ifTension(" + tension + ", 0)", leg.ifTension(tension, 0), GrainLeg.BAD_VALUE);
        }
        for (int ticks : new int[] {LEAST, -1, 0, 201, MOST}) {
            due.is("ifTension(0, " + ticks + ")", leg.ifTension(0, ticks), GrainLeg.BAD_VALUE);
            due.is("ifTension(200, " + ticks + ")", leg.ifTension(200, ticks), GrainLeg.BAD_VALUE);
        }
        due.is("ifTension(0, 1)", leg.ifTension(0, 1), 0);
        due.is("ifTension(200, 1)", leg.ifTension(200, 1), 0);
        due.is("ifTension(200, 2)", leg.ifTension(200, 2), 0);
        due.is("ifTension(200, 3)", leg.ifTension(200, 3), 6);
        due.is("ifTension(200, 199)", leg.ifTension(200, 199), 197 * 6);
        due.is("ifTension(200, 200)", leg.ifTension(200, 200), 198 * 6);
    }

    /** A load of 8 below the head: with the tension 7 there is one cell, which gives half; with 8 there are two. */
    private static void givenOutIf(Due due) {
        due.sentence("Tells what another tension would bring");
        GrainLeg leg = Legs.withBucketBelowHead(8);
        due.performs(leg, "d2", 1);
        due.is("ifTension(8, 1)", leg.ifTension(8, 1), 8);
        due.is("ifTension(7, 1)", leg.ifTension(7, 1), 4);
        due.is("ifTension(60, 1): its own", leg.ifTension(60, 1), 8);
        due.is("the tension", leg.count(21), 60);
        due.is("run(1)", leg.run(1), 8);
        due.is("ifTension(60, 200): not what was given before", leg.ifTension(60, 200), 0);
    }

    private static void ifWhereItStands(Due due) {
        due.sentence("Returns how many measures would be given out at the head; BAD_VALUE");
        GrainLeg leg = Legs.withFullBuckets(0);
        due.is("nothing where it stands", leg.ifTension(200, 200), 0);
        due.is("start()", leg.start(), 100);
        due.is("six of 20, less what falls back", leg.ifTension(200, 6), 60);
        due.is("all of it in the end", leg.ifTension(200, 200), 6 * 20);
        due.is("nothing where it tripped", Legs.trippedForSlip().ifTension(200, 200), 0);
    }

    private static void ticksOfLeast(Due due) {
        due.sentence("ticks: 1 to 100; BAD_VALUE");
        GrainLeg leg = new GrainLeg();
        due.is("start()", leg.start(), 0);
        for (int ticks : new int[] {LEAST, -1, 0, 101, MOST}) {
            due.is("leastTension(" + ticks + ")", leg.leastTension(ticks), GrainLeg.BAD_VALUE);
        }
        due.is("leastTension(1)", leg.leastTension(1), 0);
        due.is("leastTension(100)", leg.leastTension(100), 0);
    }

    private static void leastIsZero(Due due) {
        due.sentence("Returns the tension, 0 to 200: the first");
        due.is("a load of 0", Legs.withBoot(20, 5, 200).leastTension(100), 0);
        due.is("a load of 10 slips by 20", Legs.withBoot(40, 3, 200).leastTension(100), 0);
        GrainLeg leg = Legs.withBoot(40, 3, 200);
        due.performs(leg, "f2,o,w1,x", 4);
        due.is("a load of 11 slips by 22", leg.leastTension(100), 1);
    }

    /** With a tension of 200 three cells take 60 of 300, with less than that two take 40, and 260 are too much. */
    private static void leastIsTwoHundred(Due due) {
        due.sentence("Returns the tension, 0 to 200: the last");
        GrainLeg leg = Legs.withFullBuckets(300);
        due.performs(leg, "d3,g", 2);
        due.is("the load", leg.count(7), 200);
        due.is("boot's count", leg.sensor(1, 1), 2);
        due.is("leastTension(1)", leg.leastTension(1), 200);
        due.performs(leg, "t199", 1);
        due.is("tripsIn() with 199", leg.tripsIn(), 1);
        due.performs(leg, "t200", 1);
        due.isTrue("tripsIn() with 200", leg.tripsIn() != 1);
    }

    private static void noneWithEachOne(Due due) {
        due.sentence("NONE if it would trip with each one");
        GrainLeg leg = Legs.withFullBuckets(300);
        due.performs(leg, "d2,g", 2);
        due.is("two cells leave 260: leastTension(1)", leg.leastTension(1), GrainLeg.NONE);
        due.is("tripsIn() with 200", leg.tripsIn(), 1);
    }

    private static void leastWhereItStands(Due due) {
        due.sentence("leastTension: NOT_POSSIBLE if it stands");
        due.is("leastTension(1) at first", new GrainLeg().leastTension(1), GrainLeg.NOT_POSSIBLE);
        due.is("leastTension(100)", new GrainLeg().leastTension(100), GrainLeg.NOT_POSSIBLE);
        due.is("leastTension(1) of a leg that tripped", Legs.trippedForBoot().leastTension(1), GrainLeg.NOT_POSSIBLE);
        due.is("leastTension(101) where it stands", new GrainLeg().leastTension(101), GrainLeg.BAD_VALUE);
    }

    private static void oneTensionLessTrips(Due due) {
        due.sentence("the least tension with which the leg would not trip in some ticks");
        GrainLeg leg = Legs.withBoot(40, 5, 200);
        due.is("leastTension(100)", leg.leastTension(100), 40);
        due.performs(leg, "t40", 1);
        due.is("tripsIn() with it", leg.tripsIn(), GrainLeg.NONE);
        due.performs(leg, "t39", 1);
        due.is("tripsIn() with one less", leg.tripsIn(), 3);
    }

    /** With a tension of 200 it does not slip, and six cells a tick rub it warm: it trips, too. */
    private static void moreTensionTripsToo(Due due) {
        due.sentence("Finds the least tension with which the leg would not trip: not where trips end");
        GrainLeg leg = new GrainLeg();
        due.performs(leg, "d6,f28,c19,t200,a4,o,g,w8", 8);
        due.is("leastTension(19)", leg.leastTension(19), 18);
        int[][] tensionTrips = {{17, 1}, {18, 0}, {100, 1}, {200, 1}};
        for (int[] row : tensionTrips) {
            leg.set(1, row[0]);
            int ticks = leg.tripsIn();
            due.is("trips with " + row[0], ticks > 0 && ticks <= 19 ? 1 : 0, row[1]);
        }
    }

    private static void theLastTickCounts(Due due) {
        due.sentence("would not trip in some ticks, if only these pass");
        GrainLeg leg = Legs.withBoot(40, 5, 200);
        due.is("leastTension(2)", leg.leastTension(2), 0);
        due.is("leastTension(3)", leg.leastTension(3), 40);
        GrainLeg warm = new GrainLeg();
        due.performs(warm, "a4,g", 2);
        due.is("tripsIn()", warm.tripsIn(), 100);
        due.is("leastTension(99)", warm.leastTension(99), 0);
        due.is("leastTension(100)", warm.leastTension(100), GrainLeg.NONE);
    }

    private static void nothingChanges(Due due) {
        due.sentence("Tells ..: it is no act, and no tick passes");
        GrainLeg leg = slowlyRubbing(due);
        due.changesNothing(leg, "tripsIn()", () -> leg.tripsIn(), 300);
        due.changesNothing(leg, "leastTension(100)", () -> leg.leastTension(100), leg.leastTension(100));
        GrainLeg other = Legs.withBoot(40, 5, 200);
        due.changesNothing(other, "ifTension(0, 200)", () -> other.ifTension(0, 200), 0);
        due.is("it runs on", other.count(11), 1);
    }

    /** Only run() is said to be FULL. */
    private static void beyondTheLastTick(Due due) {
        due.sentence("FULL if the count of ticks would be more than 99999: of run() alone");
        GrainLeg leg = Legs.atTick(99999);
        due.performs(leg, "a4,g", 2);
        due.is("tripsIn()", leg.tripsIn(), 100);
        due.is("leastTension(99)", leg.leastTension(99), 0);
        due.is("leastTension(100)", leg.leastTension(100), GrainLeg.NONE);
        due.is("gate(true)", leg.gate(true), 0);
        due.is("ifTension(200, 200): it trips in tick 100", leg.ifTension(200, 200), 98 * 6);
        due.is("ticks", leg.count(14), 99999);
    }
}
