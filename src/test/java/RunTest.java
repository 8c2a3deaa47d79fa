/** Promise 8: run, and what happens in a tick. */
public final class RunTest {
    public static void main(String[] args) {
        Due due = new Due("RunTest");
        wrongTicks(due);
        steadyRun(due);
        standing(due);
        spilling(due);
        fallingBack(due);
        fallingBackWhereTheBootIsFull(due);
        throwingAllWithTwoCells(due);
        slip(due);
        load(due);
        capacity(due);
        warmth(due);
        tooManyTicks(due);
        due.end();
    }

    private static void wrongTicks(Due due) {
        GrainLeg leg = new GrainLeg();
        int[] wrong = {0, -1, 201, Integer.MIN_VALUE, Integer.MAX_VALUE};
        for (int ticks : wrong) {
            due.is("run(" + ticks + ")", leg.run(ticks), GrainLeg.BAD_VALUE);
        }
        due.is("no ticks", leg.count(14), 0);
        due.is("no acts", leg.count(15), 0);
        due.is("run(200)", leg.run(200), 0);
        due.is("run(1)", leg.run(1), 0);
        due.is("ticks", leg.count(14), 201);
        due.is("acts", leg.count(15), 2);
    }

    /** Each tick's 6 measures rise in a bucket of their own and come to the head two ticks later. */
    private static void steadyRun(Due due) {
        GrainLeg leg = new GrainLeg();
        due.is("gate(true)", leg.gate(true), 0);
        due.is("start()", leg.start(), 0);
        due.is("run(1)", leg.run(1), 0);
        due.is("bucket(2)", leg.bucket(2), 6);
        due.is("run(1)", leg.run(1), 0);
        due.is("bucket(2)", leg.bucket(2), 6);
        due.is("bucket(5)", leg.bucket(5), 6);
        due.is("load", leg.count(7), 12);
        due.is("run(1)", leg.run(1), 6);
        due.is("bucket(8) was emptied at the head", leg.bucket(8), 0);
        due.is("run(10)", leg.run(10), 60);
        due.is("given", leg.count(2), 66);
        due.is("fed", leg.count(4), 78);
        due.is("in the boot", leg.count(0), 0);
        due.is("in all buckets", leg.count(1), 12);
        due.is("cells", leg.count(9), 3);
    }

    private static void standing(Due due) {
        GrainLeg leg = new GrainLeg();
        due.performs(leg, "o,g,w4,s", 4);
        int atFive = leg.bucket(5);
        due.is("given", leg.count(2), 12);
        due.is("run(3) where it stands", leg.run(3), 0);
        due.is("nothing moved", leg.bucket(5), atFive);
        due.is("the boot fills", leg.count(0), 18);
        due.is("cells", leg.count(9), 0);
        due.is("gate(false)", leg.gate(false), 18);
        due.is("run(3)", leg.run(3), 0);
        due.is("a closed gate feeds nothing", leg.count(4), 24 + 18);
        due.is("ticks", leg.count(14), 10);
    }

    private static void spilling(Due due) {
        GrainLeg leg = new GrainLeg();
        due.performs(leg, "f40,o,w7", 3);
        due.is("boot", leg.count(0), 280);
        due.is("set(2, 20)", leg.set(2, 20), 40);
        due.is("run(1) fills it", leg.run(1), 0);
        due.is("boot", leg.count(0), 300);
        due.is("spilt", leg.count(3), 0);
        due.is("run(2)", leg.run(2), 0);
        due.is("boot", leg.count(0), 300);
        due.is("spilt", leg.count(3), 40);
        due.is("fed, also what was spilt", leg.count(4), 340);
    }

    private static void fallingBack(Due due) {
        GrainLeg leg = new GrainLeg();
        due.performs(leg, "d1,c5,f5,o,g,w1,x,w5", 8);
        due.is("bucket(5)", leg.bucket(5), 5);
        due.is("nothing given yet", leg.count(2), 0);
        due.is("run(1): the greater half is given out", leg.run(1), 3);
        due.is("fallen back", leg.count(6), 2);
        // The bucket that comes to the boot in the same move comes behind the grain that falls back.
        due.is("boot", leg.count(0), 0);
        due.is("bucket(0)", leg.bucket(0), 2);
        due.is("bucket(6)", leg.bucket(6), 0);
        due.is("run(6)", leg.run(6), 1);
        due.is("fallen back", leg.count(6), 3);
        due.is("run(6): one measure has no half", leg.run(6), 1);
        due.is("fallen back", leg.count(6), 3);
        due.is("given", leg.count(2), 5);
    }

    private static void fallingBackWhereTheBootIsFull(Due due) {
        GrainLeg leg = new GrainLeg();
        // Six buckets of 8 at the places 0 to 5, and 192 in the boot; then 108 come in and 12 are spilt.
        due.performs(leg, "f40,t200,d1,o,g,w6,s,w3,x", 9);
        due.is("boot", leg.count(0), 300);
        due.is("spilt", leg.count(3), 12);
        due.is("start()", leg.start(), 140);
        due.is("run(1)", leg.run(1), 4);
        due.is("fallen back", leg.count(6), 4);
        due.is("what fell back is spilt", leg.count(3), 16);
        due.is("the next bucket takes 8", leg.count(0), 292);
        due.is("it trips behind the moves", leg.count(13), 1);
    }

    private static void throwingAllWithTwoCells(Due due) {
        GrainLeg leg = new GrainLeg();
        due.performs(leg, "d2,c7,f7,o,g,w1,x,w2", 8);
        due.is("run(1)", leg.run(1), 7);
        due.is("fallen back", leg.count(6), 0);
        due.is("cells", leg.count(9), 2);
        GrainLeg slipping = new GrainLeg();
        due.performs(slipping, "d2,c7,f7,o,g,w1,x,t6,w2", 9);
        due.is("a slip of 2 takes one of two cells", slipping.count(9), 1);
        due.is("fallen back", slipping.count(6), 0);
        due.is("run(3)", slipping.run(3), 4);
        due.is("fallen back with one cell", slipping.count(6), 3);
    }

    private static void slip(Due due) {
        int[][] tensionSlipCells = {{50, 0, 6}, {49, 2, 5}, {40, 20, 4}, {34, 32, 4}, {33, 34, 3}, {1, 98, 0},
            {0, 100, 0}};
        for (int[] row : tensionSlipCells) {
            GrainLeg leg = Legs.withBoot(40, 5, row[0]);
            leg.set(0, 6);
            due.is("run(1) with tension " + row[0], leg.run(1), 0);
            due.is("slip", leg.count(8), row[1]);
            due.is("cells", leg.count(9), row[2]);
            due.is("it takes 8 in a cell", leg.count(0), 200 - 8 * row[2]);
        }
        GrainLeg full = Legs.withBoot(40, 8, 0);
        due.is("run(1) with load 100, tension 0", full.run(1), 0);
        due.is("no slip above 100", full.count(8), 100);
    }

    private static void load(Due due) {
        int[][] bootLoad = {{100, 0}, {101, 0}, {102, 1}, {103, 1}, {104, 2}};
        for (int[] row : bootLoad) {
            GrainLeg leg = new GrainLeg();
            due.performs(leg, "f20,o,w5,f" + (row[0] - 100) + ",w1", 5);
            due.is("boot", leg.count(0), row[0]);
            due.is("load with " + row[0] + " in the boot", leg.count(7), row[1]);
        }
        GrainLeg leg = new GrainLeg();
        // A bucket of 1 at 0, of 2 at 1, and so on to 6 at 5; the one at 0 is no load.
        due.performs(leg, "d1,o,g,f6,w1,f5,w1,f4,w1,f3,w1,f2,w1,f1,w1", 15);
        due.is("load", leg.count(7), 2 + 3 + 4 + 5 + 6);
        due.is("in all buckets", leg.count(1), 21);
        for (int place = 0; place < 6; place++) {
            due.is("bucket(" + place + ")", leg.bucket(place), place + 1);
        }
    }

    private static void capacity(Due due) {
        GrainLeg leg = new GrainLeg();
        due.performs(leg, "d0,f20,c4,o,g,w1", 6);
        due.is("a bucket that does not come takes nothing", leg.bucket(0), 0);
        due.performs(leg, "x,d3,w1", 3);
        due.is("bucket(0)", leg.bucket(0), 4);
        due.is("bucket(1)", leg.bucket(1), 4);
        due.is("bucket(2)", leg.bucket(2), 4);
        due.is("boot", leg.count(0), 8);
        due.performs(leg, "d0,c20,w1", 3);
        due.is("nor does one that came in another tick", leg.bucket(0), 4);
    }

    private static void warmth(Due due) {
        int[][] alignmentCellsWarmth = {{3, 6, 0}, {-3, 6, 0}, {4, 6, 4}, {-4, 6, 4}, {9, 1, 4}, {-9, 1, 4}, {4, 1, 0},
            {4, 2, 0}, {4, 3, 1}, {9, 0, 0}, {-7, 5, 18}};
        for (int[] row : alignmentCellsWarmth) {
            GrainLeg leg = new GrainLeg();
            leg.set(4, row[0]);
            leg.set(0, row[1]);
            leg.start();
            due.is("run(1)", leg.run(1), 0);
            due.is("warmth at " + row[0] + " with " + row[1] + " cells", leg.count(10), row[2]);
        }
        GrainLeg leg = Legs.rubbing();
        due.performs(leg, "w1,s", 2);
        due.is("warmth", leg.count(10), 34);
        due.is("run(16)", leg.run(16), 0);
        due.is("it cools by 2", leg.count(10), 2);
        due.is("run(2)", leg.run(2), 0);
        due.is("not below 0", leg.count(10), 0);
    }

    private static void tooManyTicks(Due due) {
        GrainLeg leg = Legs.atTick(99800);
        due.is("run(200) of 199", leg.run(200), GrainLeg.FULL);
        due.is("run(201): BAD_VALUE comes first", leg.run(201), GrainLeg.BAD_VALUE);
        due.is("run(199)", leg.run(199), 0);
        due.is("ticks", leg.count(14), 99999);
        due.is("run(1)", leg.run(1), GrainLeg.FULL);
        due.is("start()", leg.start(), 0);
        due.is("tripsIn() looks further", leg.tripsIn(), GrainLeg.NONE);
        due.is("ifTension() looks further", leg.ifTension(9, 200), 0);
        due.is("leastTension() looks further", leg.leastTension(100), 0);
        due.is("undo()", leg.undo(), 3);
        due.is("undo()", leg.undo(), 2);
        due.is("ticks", leg.count(14), 99800);
    }
}
