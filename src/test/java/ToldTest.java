/** Promises 16, 17 and 22: bucket, sensor, count, and that telling changes nothing. */
public final class ToldTest {
    public static void main(String[] args) {
        Due due = new Due("ToldTest");
        buckets(due);
        bucketsGoRound(due);
        counts(due);
        wrongCounts(due);
        allTheGrain(due);
        due.end();
    }

    private static void buckets(Due due) {
        GrainLeg leg = new GrainLeg();
        due.performs(leg, "d1,c20,o,g,f11,w1,f12,w1,f13,w1,f14,w1,f15,w1", 14);
        for (int place = 0; place < 12; place++) {
            due.is("bucket(" + place + ")", leg.bucket(place), place < 5 ? 15 - place : 0);
        }
        due.performs(leg, "d6,f20,w1", 3);
        // All five came by the head; the first of six moves took 20, and there was no more.
        for (int place = 0; place < 12; place++) {
            due.is("bucket(" + place + ")", leg.bucket(place), place == 5 ? 20 : 0);
        }
        int[] wrong = {-1, 12, Integer.MIN_VALUE, Integer.MAX_VALUE};
        for (int place : wrong) {
            due.is("bucket(" + place + ")", leg.bucket(place), GrainLeg.UNKNOWN);
        }
    }

    /** For more ticks than the belt has buckets, so that each of them comes to each place. */
    private static void bucketsGoRound(Due due) {
        GrainLeg leg = new GrainLeg();
        due.performs(leg, "d1,c20,t200,o,g", 5);
        for (int tick = 1; tick <= 14; tick++) {
            int[] before = new int[12];
            for (int place = 0; place < 12; place++) {
                before[place] = leg.bucket(place);
            }
            leg.set(2, 1 + tick % 5);
            leg.run(1);
            int sum = leg.bucket(0);
            for (int place = 1; place < 12; place++) {
                int measures = leg.bucket(place);
                due.is("bucket(" + place + ")", measures, place == 6 ? 0 : before[place - 1]);
                sum += measures;
            }
            due.is("in all buckets", leg.count(1), sum);
            due.is("it takes what there is", leg.bucket(0), 1 + tick % 5 + before[5] / 2);
        }
    }

    private static void counts(Due due) {
        GrainLeg leg = new GrainLeg();
        // Standing: 320 come in, 20 are spilt; by hand 190 are taken.
        due.performs(leg, "f40,o,w8,x", 4);
        due.is("clean(190)", leg.clean(190), 110);
        // One cell a tick: six buckets of 8, and in the seventh tick 4 of the first fall back.
        due.performs(leg, "d1,a5,g,w7", 4);
        int[] counts = {110 - 7 * 8 + 4, 6 * 8, 4, 20, 320, 190, 4, 5 * 8, 0, 1, 0, 1, 0, GrainLeg.NONE, 15, 3, 10};
        for (int what = 0; what < counts.length; what++) {
            due.is("count(" + what + ")", leg.count(what), counts[what]);
        }
        int[] numbers = {1, 60, 40, 8, 5};
        for (int i = 0; i < 5; i++) {
            due.is("count(" + (20 + i) + ")", leg.count(20 + i), numbers[i]);
        }
        due.performs(leg, "t35,o,d4,f0,a-6,w1", 6);
        // 40 of load are 5 too much: a slip of 10 leaves 3 cells of 4.
        due.is("slip", leg.count(8), 10);
        due.is("cells", leg.count(9), 3);
        due.is("warmth", leg.count(10), 3 * 3 - 2);
        due.is("open", leg.count(12), 1);
        due.is("given", leg.count(2), 4 + 3 * 8);
        due.is("sensor(0, 0)", leg.sensor(0, 0), 10);
        due.is("sensor(1, 0)", leg.sensor(1, 0), leg.count(0));
        due.is("sensor(2, 0)", leg.sensor(2, 0), 7);
    }

    private static void wrongCounts(Due due) {
        GrainLeg leg = Legs.trippedForBoot();
        int[] wrong = {-1, 17, 18, 19, 25, Integer.MIN_VALUE, Integer.MAX_VALUE};
        for (int what : wrong) {
            due.is("count(" + what + ")", leg.count(what), GrainLeg.BAD_VALUE);
        }
        due.is("the sensor that tripped it", leg.count(13), 1);
        due.is("the states", leg.count(15), 4);
    }

    private static void allTheGrain(Due due) {
        String[] texts = {"f40,o,w9,x", "d1,t200,g,w40", "w1", "w1", "w1", "r,g,o,f6,w30", "d3,w30", "s,w1"};
        GrainLeg leg = new GrainLeg();
        for (String text : texts) {
            due.performs(leg, text, text.split(",").length);
            leg.clean(31);
            int sum = leg.count(0) + leg.count(1) + leg.count(2) + leg.count(3) + leg.count(5);
            due.is("where all the grain went after " + text, sum, leg.count(4));
        }
        due.isTrue("some was spilt", leg.count(3) > 0);
        due.isTrue("some was taken by hand", leg.count(5) > 0);
        due.isTrue("some fell back", leg.count(6) > 0);
        due.isTrue("some was given out", leg.count(2) > 0);
    }
}
