/** Promise 2: set. */
public final class NumbersTest {
    private static final int[][] RANGES = {{0, 6}, {0, 200}, {0, 40}, {1, 20}, {-9, 9}};
    private static final int[] FIRST = {3, 60, 6, 8, 0};

    public static void main(String[] args) {
        Due due = new Due("NumbersTest");
        for (int which = 0; which < 5; which++) {
            eachNumber(due, which);
        }
        wrongNumbers(due);
        fullBucketsStayFull(due);
        due.end();
    }

    private static void eachNumber(Due due, int which) {
        GrainLeg leg = new GrainLeg();
        int least = RANGES[which][0];
        int most = RANGES[which][1];
        due.is("the first value again", leg.set(which, FIRST[which]), GrainLeg.NONE);
        due.is("too little", leg.set(which, least - 1), GrainLeg.BAD_VALUE);
        due.is("too much", leg.set(which, most + 1), GrainLeg.BAD_VALUE);
        due.is("far too little", leg.set(which, Integer.MIN_VALUE), GrainLeg.BAD_VALUE);
        due.is("far too much", leg.set(which, Integer.MAX_VALUE), GrainLeg.BAD_VALUE);
        due.is("unchanged", leg.count(20 + which), FIRST[which]);
        due.is("no act", leg.count(15), 0);
        due.is("most", leg.set(which, most), FIRST[which]);
        due.is("most again", leg.set(which, most), GrainLeg.NONE);
        due.is("least", leg.set(which, least), most);
        due.is("changed", leg.count(20 + which), least);
        due.is("first", leg.set(which, FIRST[which]), least);
        due.is("three acts", leg.count(15), 3);
        for (int i = 0; i < 5; i++) {
            due.is("number " + i, leg.count(20 + i), FIRST[i]);
        }
    }

    private static void wrongNumbers(Due due) {
        GrainLeg leg = new GrainLeg();
        int[] wrong = {-1, 5, Integer.MIN_VALUE, Integer.MAX_VALUE};
        for (int which : wrong) {
            due.is("set(" + which + ", 1)", leg.set(which, 1), GrainLeg.UNKNOWN);
            due.is("set(" + which + ", 999): UNKNOWN comes first", leg.set(which, 999), GrainLeg.UNKNOWN);
        }
    }

    private static void fullBucketsStayFull(Due due) {
        GrainLeg leg = new GrainLeg();
        due.performs(leg, "d2,f40,c20,o,g,w1", 6);
        due.is("bucket(1)", leg.bucket(1), 20);
        due.is("bucket(0)", leg.bucket(0), 20);
        due.is("set(3, 1)", leg.set(3, 1), 20);
        due.is("bucket(1) keeps", leg.bucket(1), 20);
        due.performs(leg, "x,w1", 2);
        due.is("bucket(3) keeps", leg.bucket(3), 20);
        due.is("bucket(2) keeps", leg.bucket(2), 20);
        due.is("bucket(0) took from an empty boot", leg.bucket(0), 0);
    }
}
