/** The sentences of 'Terms: the leg' and 'a tick' that name a boundary case, each with a test of its own. */
public final class EdgesOfTheLegTest {
    private static final int[][] RANGES = {{0, 6}, {0, 200}, {0, 40}, {1, 20}, {-9, 9}};
    private static final int[] FIRST = {3, 60, 6, 8, 0};

    public static void main(String[] args) {
        Due due = new Due("EdgesOfTheLegTest");
        places(due);
        roundTheBelt(due);
        capacity(due);
        ranges(due);
        firstValues(due);
        standsAndIsClosedAtFirst(due);
        onlyAnOpenGateFeeds(due);
        bootIsFull(due);
        spiltAtOnce(due);
        standing(due);
        loadOfBuckets(due);
        loadOfBoot(due);
        slipBeginsBeyondTension(due);
        slipEndsAtHundred(due);
        cellsAreRoundedDown(due);
        twoCellsGiveAll(due);
        halfIsRoundedDown(due);
        fallsBackBeforeTheBootIsTakenFrom(due);
        fallsBackIntoFullBoot(due);
        noCellNoGrain(due);
        moreThanTheCapacity(due);
        warmthBeginsBeyondThree(due);
        warmthGrowsThenFalls(due);
        warmthFallsWhereItRuns(due);
        due.end();
    }

    private static void places(Due due) {
        due.sentence("The belt has 12 buckets; they stand at the places 0 to 11");
        GrainLeg leg = Legs.withFullBuckets(0);
        due.is("bucket(-1)", leg.bucket(-1), GrainLeg.UNKNOWN);
        due.is("bucket(0)", leg.bucket(0), 20);
        due.is("bucket(5)", leg.bucket(5), 20);
        due.is("bucket(6)", leg.bucket(6), 0);
        due.is("bucket(11)", leg.bucket(11), 0);
        due.is("bucket(12)", leg.bucket(12), GrainLeg.UNKNOWN);
    }

    /** Two cells a tick: what comes in fills the first of two buckets, in more than three rounds of the belt. */
    private static void roundTheBelt(Due due) {
        due.sentence("each bucket comes to the next place (from 11 to 0)");
        for (int cellsAhead = 0; cellsAhead <= 1; cellsAhead++) {
            GrainLeg leg = new GrainLeg();
            due.performs(leg, "d" + cellsAhead + ",g,w1,d2,c20,t200,o", 7);
            int[] fed = new int[23];
            for (int tick = 3; tick < 23; tick++) {
                fed[tick] = 1 + tick * 7 % 20;
                leg.set(2, fed[tick]);
                leg.run(1);
                for (int place = 0; place < 12; place++) {
                    boolean isFilled = place == 1 || place == 3 || place == 5;
                    due.is("tick " + (tick - 2) + " bucket(" + place + ")", leg.bucket(place),
                        isFilled ? fed[tick - place / 2] : 0);
                }
                due.is("in all buckets", leg.count(1), fed[tick] + fed[tick - 1] + fed[tick - 2]);
            }
        }
    }

    private static void capacity(Due due) {
        due.sentence("takes grain from the boot, as much as there is and as the capacity has room for");
        int[][] bootTaken = {{0, 0}, {1, 1}, {7, 7}, {8, 8}, {9, 8}, {300, 8}};
        for (int[] row : bootTaken) {
            GrainLeg leg = Legs.standing(row[0]);
            leg.set(0, 1);
            leg.set(1, 200);
            leg.start();
            due.is("run(1) with " + row[0] + " in the boot", leg.run(1), 0);
            due.is("bucket(0)", leg.bucket(0), row[1]);
            due.is("in the boot", leg.count(0), row[0] - row[1]);
        }
        for (int capacity = 1; capacity <= 20; capacity += 19) {
            GrainLeg leg = Legs.standing(100);
            leg.set(3, capacity);
            leg.start();
            due.is("run(1)", leg.run(1), 0);
            due.is("three buckets of the capacity " + capacity, leg.count(1), 3 * capacity);
        }
    }

    private static void ranges(Due due) {
        for (int which = 0; which < 5; which++) {
            due.sentence("There are these numbers (range; first value): number " + which);
            int least = RANGES[which][0];
            int most = RANGES[which][1];
            int number = which;
            GrainLeg leg = new GrainLeg();
            due.changesNothing(leg, "set(" + which + ", least - 1)", () -> leg.set(number, least - 1),
                GrainLeg.BAD_VALUE);
            due.changesNothing(leg, "set(" + which + ", most + 1)", () -> leg.set(number, most + 1),
                GrainLeg.BAD_VALUE);
            due.is("set(" + which + ", least)", leg.set(which, least), FIRST[which]);
            due.is("the least is taken", leg.count(20 + which), least);
            due.is("set(" + which + ", most)", leg.set(which, most), least);
            due.is("the most is taken", leg.count(20 + which), most);
            due.is("from most to least", leg.set(which, least), most);
        }
    }

    private static void firstValues(Due due) {
        for (int which = 0; which < 5; which++) {
            due.sentence("first value: of the number " + which);
            int number = which;
            GrainLeg leg = new GrainLeg();
            due.is("count(" + (20 + which) + ")", leg.count(20 + which), FIRST[which]);
            due.changesNothing(leg, "set to its first value", () -> leg.set(number, FIRST[number]), GrainLeg.NONE);
        }
    }

    private static void standsAndIsClosedAtFirst(Due due) {
        due.sentence("The leg runs, or stands (at first); the gate is open, or closed (at first)");
        GrainLeg leg = new GrainLeg();
        due.is("runs", leg.count(11), 0);
        due.is("open", leg.count(12), 0);
        due.is("run(1)", leg.run(1), 0);
        due.is("no cells", leg.count(9), 0);
        due.is("no feed", leg.count(4), 0);
    }

    private static void onlyAnOpenGateFeeds(Due due) {
        due.sentence("If the gate is open, the feed comes into the boot");
        GrainLeg leg = new GrainLeg();
        due.performs(leg, "f40,w1", 2);
        due.is("closed", leg.count(0), 0);
        due.performs(leg, "o,w1", 2);
        due.is("open", leg.count(0), 40);
        due.performs(leg, "f0,w1", 2);
        due.is("a feed of 0", leg.count(0), 40);
        due.performs(leg, "f1,w1", 2);
        due.is("a feed of 1", leg.count(0), 41);
        due.performs(leg, "x,w1", 2);
        due.is("closed again", leg.count(0), 41);
        due.is("fed", leg.count(4), 41);
    }

    private static void bootIsFull(Due due) {
        due.sentence("the boot has at most 300; what is too much is spilt");
        int[][] bootFeedBootSpilt = {{298, 1, 299, 0}, {299, 0, 299, 0}, {299, 1, 300, 0}, {299, 2, 300, 1},
            {300, 0, 300, 0}, {300, 1, 300, 1}, {300, 40, 300, 40}, {260, 40, 300, 0}, {261, 40, 300, 1}};
        for (int[] row : bootFeedBootSpilt) {
            GrainLeg leg = Legs.standing(row[0]);
            leg.set(2, row[1]);
            leg.gate(true);
            due.is("run(1) with " + row[0] + " and " + row[1], leg.run(1), 0);
            due.is("in the boot", leg.count(0), row[2]);
            due.is("spilt", leg.count(3), row[3]);
            due.is("fed", leg.count(4), row[0] + row[1]);
        }
    }

    private static void spiltAtOnce(Due due) {
        due.sentence("what the gate let through, also what was spilt at once");
        GrainLeg leg = Legs.standing(300);
        due.performs(leg, "t200,f6,o,g,w1", 5);
        due.is("spilt, though the buckets take 24 then", leg.count(3), 6);
        due.is("in the boot", leg.count(0), 276);
        due.is("fed", leg.count(4), 306);
    }

    private static void standing(Due due) {
        due.sentence("If the leg stands, there are no slip and no cells");
        GrainLeg leg = Legs.withBoot(40, 5, 40);
        due.performs(leg, "d6,w1,s", 3);
        due.is("slip of the latest tick", leg.count(8), 20);
        due.is("cells of the latest tick", leg.count(9), 4);
        int boot = leg.count(0);
        due.performs(leg, "t0", 1);
        due.is("run(1) with the load above the tension", leg.run(1), 0);
        due.is("slip", leg.count(8), 0);
        due.is("cells", leg.count(9), 0);
        due.is("sensor(0, 0)", leg.sensor(0, 0), 0);
        due.is("the boot as it was", leg.count(0), boot);
    }

    private static void loadOfBuckets(Due due) {
        due.sentence("the load is what the buckets at the places 1 to 6 have");
        GrainLeg leg = Legs.standing(7);
        due.performs(leg, "d1,t200,g", 3);
        int[] loads = {0, 7, 7, 7, 7, 7, 0};
        for (int place = 0; place < loads.length; place++) {
            due.is("run(1)", leg.run(1), place == 6 ? 4 : 0);
            due.is("load with 7 at the place " + place, leg.count(7), loads[place]);
        }
        due.is("all five count", Legs.withFullBuckets(0).count(7), 100);
    }

    private static void loadOfBoot(Due due) {
        due.sentence("half (rounded down) of what is in the boot above 100");
        int[][] bootLoad = {{0, 0}, {99, 0}, {100, 0}, {101, 0}, {102, 1}, {103, 1}, {104, 2}, {299, 99}, {300, 100}};
        for (int[] row : bootLoad) {
            due.is("load with " + row[0], Legs.standing(row[0]).count(7), row[1]);
        }
        due.is("buckets and boot", Legs.withFullBuckets(300).count(7), 200);
    }

    private static void slipBeginsBeyondTension(Due due) {
        due.sentence("the slip is 0 if the load is at most the tension, otherwise 2 for each measure that it is more");
        int[][] tensionSlip = {{200, 0}, {51, 0}, {50, 0}, {49, 2}, {48, 4}, {40, 20}, {39, 22}};
        for (int[] row : tensionSlip) {
            GrainLeg leg = Legs.withBoot(40, 5, row[0]);
            due.is("run(1)", leg.run(1), 0);
            due.is("slip with load 50 and tension " + row[0], leg.count(8), row[1]);
        }
        GrainLeg fed = Legs.withBoot(40, 5, 50);
        due.performs(fed, "f1,o,w1", 3);
        due.is("a single measure above 200 is no load", fed.count(8), 0);
        due.is("run(1)", fed.run(1), 0);
        due.is("the feed of this tick is load already", fed.count(8), 2);
    }

    private static void slipEndsAtHundred(Due due) {
        due.sentence("2 for each measure that it is more, but at most 100");
        int[][] bootTensionSlip = {{200, 1, 98}, {200, 0, 100}, {202, 0, 100}, {202, 1, 100}, {202, 2, 98},
            {300, 0, 100}};
        for (int[] row : bootTensionSlip) {
            GrainLeg leg = Legs.standing(row[0]);
            leg.set(0, 6);
            leg.set(1, row[1]);
            leg.start();
            due.is("run(1)", leg.run(1), 0);
            due.is("slip with " + row[0] + " and tension " + row[1], leg.count(8), row[2]);
            due.is("not below no cells", leg.count(9), 0);
        }
    }

    private static void cellsAreRoundedDown(Due due) {
        due.sentence("the cells are the drive times (100 less the slip), divided by 100, rounded down");
        int[][] driveSlipCells = {{6, 0, 6}, {6, 2, 5}, {5, 20, 4}, {5, 22, 3}, {4, 50, 2}, {4, 52, 1}, {2, 50, 1},
            {2, 52, 0}, {1, 0, 1}, {1, 2, 0}, {6, 82, 1}, {6, 84, 0}, {6, 100, 0}, {0, 0, 0}, {0, 2, 0}};
        for (int[] row : driveSlipCells) {
            GrainLeg leg = Legs.withBoot(40, 5, 50 - row[1] / 2);
            leg.set(0, row[0]);
            due.is("run(1)", leg.run(1), 0);
            due.is("slip", leg.count(8), row[1]);
            due.is("cells with drive " + row[0] + " and slip " + row[1], leg.count(9), row[2]);
            due.is("so many buckets took 8", leg.count(1), 8 * row[2]);
        }
    }

    private static void twoCellsGiveAll(Due due) {
        due.sentence("all of it, if the cells of this tick are 2 or more; otherwise half of it falls back");
        int[][] driveTensionCellsGiven = {{1, 60, 1, 4}, {2, 60, 2, 8}, {6, 60, 6, 8}, {2, 7, 1, 4}, {3, 7, 2, 8}};
        for (int[] row : driveTensionCellsGiven) {
            GrainLeg leg = Legs.withBucketBelowHead(8);
            leg.set(0, row[0]);
            leg.set(1, row[1]);
            due.is("run(1) with drive " + row[0] + ", tension " + row[1], leg.run(1), row[3]);
            due.is("cells", leg.count(9), row[2]);
            due.is("fallen back", leg.count(6), 8 - row[3]);
        }
    }

    private static void halfIsRoundedDown(Due due) {
        due.sentence("half of it (rounded down) falls back into the boot, and the rest is given out");
        int[][] liftedFallen = {{0, 0}, {1, 0}, {2, 1}, {3, 1}, {4, 2}, {19, 9}, {20, 10}};
        for (int[] row : liftedFallen) {
            GrainLeg leg = Legs.withBucketBelowHead(row[0]);
            due.is("bucket(5)", leg.bucket(5), row[0]);
            due.is("given of " + row[0], leg.run(1), row[0] - row[1]);
            due.is("fallen back", leg.count(6), row[1]);
            due.is("bucket(6)", leg.bucket(6), 0);
        }
    }

    private static void fallsBackBeforeTheBootIsTakenFrom(Due due) {
        due.sentence("then the bucket that comes to 0 takes grain from the boot");
        GrainLeg leg = Legs.withBucketBelowHead(9);
        due.is("the boot is empty", leg.count(0), 0);
        due.is("run(1)", leg.run(1), 5);
        due.is("what fell back is in the bucket", leg.bucket(0), 4);
        due.is("the boot is empty", leg.count(0), 0);
    }

    private static void fallsBackIntoFullBoot(Due due) {
        due.sentence("What falls back when the boot is full is spilt");
        int[][] bootSpilt = {{295, 0}, {296, 0}, {297, 1}, {299, 3}, {300, 4}};
        for (int[] row : bootSpilt) {
            GrainLeg leg = Legs.withBucketBelowHead(8);
            leg.stop();
            Legs.fill(leg, row[0]);
            leg.set(1, 200);
            leg.start();
            due.is("run(1) with " + row[0], leg.run(1), 4);
            due.is("spilt", leg.count(3), row[1]);
            due.is("fallen back, also what was spilt", leg.count(6), 4);
            due.is("20 are taken behind that", leg.count(0), row[0] + 4 - row[1] - 20);
        }
    }

    private static void noCellNoGrain(Due due) {
        due.sentence("A bucket gives out or takes nothing where it does not come in a tick");
        GrainLeg leg = Legs.withBucketBelowHead(8);
        due.performs(leg, "c4,f9,o,d0,w1", 5);
        due.is("the empty bucket at 0 takes nothing", leg.bucket(0), 0);
        due.is("in the boot", leg.count(0), 9);
        due.performs(leg, "d1,w1", 2);
        due.is("it takes 4", leg.bucket(0), 4);
        int given = leg.count(2);
        due.performs(leg, "c20,d0,w1", 3);
        due.is("there is room for more, but it does not come", leg.bucket(0), 4);
        due.is("nothing is given out", leg.count(2), given);
        due.performs(leg, "d6,s,w1", 3);
        due.is("where the leg stands, too", leg.bucket(0), 4);
        GrainLeg atHead = Legs.withBucketBelowHead(8);
        due.performs(atHead, "d0,w9", 2);
        due.is("it waits below the head", atHead.bucket(5), 8);
        due.is("nothing is given out", atHead.count(2), 0);
    }

    private static void moreThanTheCapacity(Due due) {
        due.sentence("one that has more than the capacity keeps it");
        GrainLeg leg = Legs.withFullBuckets(50);
        due.performs(leg, "c1,d1,g,w1", 4);
        for (int place = 1; place <= 5; place++) {
            due.is("bucket(" + place + ")", leg.bucket(place), 20);
        }
        due.is("bucket(0) takes no more than 1", leg.bucket(0), 1);
        due.is("in the boot", leg.count(0), 50 + 10 - 1);
        due.performs(leg, "d2,w1", 2);
        due.is("all that they kept is given out", leg.count(2), 10 + 2 * 20);
    }

    private static void warmthBeginsBeyondThree(Due due) {
        due.sentence("for each step by which the alignment is beyond 3 on either side");
        int[][] alignmentWarmth = {{0, 0}, {2, 0}, {3, 0}, {4, 4}, {5, 10}, {8, 28}, {9, 34}};
        for (int[] row : alignmentWarmth) {
            for (int side = -1; side <= 1; side += 2) {
                GrainLeg leg = new GrainLeg();
                leg.set(0, 6);
                leg.set(4, side * row[0]);
                leg.start();
                due.is("run(1)", leg.run(1), 0);
                due.is("warmth at " + side * row[0], leg.count(10), row[1]);
            }
        }
    }

    private static void warmthGrowsThenFalls(Due due) {
        due.sentence("and then falls by 2, but not below 0");
        for (int cells = 0; cells <= 6; cells++) {
            GrainLeg leg = new GrainLeg();
            leg.set(4, 4);
            leg.set(0, cells);
            leg.start();
            due.is("run(1)", leg.run(1), 0);
            due.is("warmth from 0 with a growth of " + cells, leg.count(10), cells <= 2 ? 0 : cells - 2);
        }
        int[][] warmthThen = {{1, 0}, {2, 0}, {3, 1}, {4, 2}};
        for (int[] row : warmthThen) {
            GrainLeg leg = new GrainLeg();
            due.performs(leg, "a4,g,w" + row[0] + ",s", 4);
            due.is("warmth", leg.count(10), row[0]);
            due.is("run(1)", leg.run(1), 0);
            due.is("warmth behind " + row[0], leg.count(10), row[1]);
        }
    }

    private static void warmthFallsWhereItRuns(Due due) {
        due.sentence("and then falls by 2: also where it runs, and is not beyond 3");
        for (int alignment = -3; alignment <= 3; alignment++) {
            GrainLeg leg = Legs.rubbing();
            due.is("run(2)", leg.run(2), 0);
            leg.set(4, alignment);
            due.is("run(1)", leg.run(1), 0);
            due.is("warmth behind 68 at " + alignment, leg.count(10), 66);
        }
    }
}
