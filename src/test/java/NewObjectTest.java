/** Promise 1: a new object; and that two objects have nothing in common. */
public final class NewObjectTest {
    private static final int[] FIRST = {3, 60, 6, 8, 0};

    public static void main(String[] args) {
        Due due = new Due("NewObjectTest");
        GrainLeg other = Legs.trippedForBoot();
        due.performs(other, "d4,t9,c7,a5", 4);
        other.keep();
        looksNew(due, new GrainLeg());
        due.end();
    }

    private static void looksNew(Due due, GrainLeg leg) {
        for (int what = 0; what <= 16; what++) {
            due.is("count(" + what + ")", leg.count(what), what == 13 ? GrainLeg.NONE : 0);
        }
        for (int i = 0; i < 5; i++) {
            due.is("count(" + (20 + i) + ")", leg.count(20 + i), FIRST[i]);
        }
        for (int place = 0; place < 12; place++) {
            due.is("bucket(" + place + ")", leg.bucket(place), 0);
        }
        for (int sensor = 0; sensor < 3; sensor++) {
            due.is("sees", leg.sensor(sensor, 0), 0);
            due.is("its count", leg.sensor(sensor, 1), 0);
            due.is("trips", leg.sensor(sensor, 3), 0);
        }
        due.is("trip(0, 0)", leg.trip(0, 0), GrainLeg.NONE);
        due.is("stopped(0)", leg.stopped(0), GrainLeg.NONE);
        due.is("undo()", leg.undo(), GrainLeg.NONE);
        due.is("restore()", leg.restore(), GrainLeg.NONE);
        due.is("stop()", leg.stop(), GrainLeg.NONE);
        due.is("gate(false)", leg.gate(false), GrainLeg.NONE);
        due.is("reset()", leg.reset(), GrainLeg.NONE);
        due.is("clearText()", leg.clearText(), 0);
    }
}
