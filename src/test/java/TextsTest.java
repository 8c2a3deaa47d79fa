/** Promises 9 to 12: type, clearText, perform, stopped. */
public final class TextsTest {
    public static void main(String[] args) {
        Due due = new Due("TextsTest");
        typing(due);
        wellFormed(due);
        faults(due);
        faultsOfLongTexts(due);
        everyCommand(due);
        oneAct(due);
        stops(due);
        stopsThatChangeNothing(due);
        tooManyTicks(due);
        due.end();
    }

    private static void typing(Due due) {
        GrainLeg leg = new GrainLeg();
        due.is("clearText() at first", leg.clearText(), 0);
        char[] any = {'g', 0, ' ', '\n', (char) 233, (char) 256, (char) 65535};
        for (int i = 0; i < any.length; i++) {
            due.is("type " + (int) any[i], leg.type(any[i]), i + 1);
        }
        due.is("length", leg.count(16), any.length);
        due.is("perform()", leg.perform(), -201);
        due.is("clearText()", leg.clearText(), any.length);
        due.is("length", leg.count(16), 0);
        for (int i = 1; i <= 60; i++) {
            due.is("type", leg.type(i % 2 == 1 ? 's' : ','), i);
        }
        due.is("the 61st character", leg.type('s'), GrainLeg.FULL);
        due.is("length", leg.count(16), 60);
        due.is("no act", leg.count(15), 0);
        due.is("perform() of a full text that ends too early", leg.perform(), -260);
        due.is("clearText()", leg.clearText(), 60);
        due.is("clearText() again", leg.clearText(), 0);
    }

    private static void wellFormed(Due due) {
        String[] texts = {"d0", "d6", "t0", "t9", "t10", "t99", "t100", "t199", "t200", "f0", "f39", "f40", "c1", "c9",
            "c10", "c19", "c20", "a0", "a9", "a-1", "a-9", "g", "s", "o", "x", "r", "w1", "w10", "w99"};
        for (String text : texts) {
            due.performs(new GrainLeg(), text, 1);
            due.performs(new GrainLeg(), text + ",s", 2);
            due.performs(new GrainLeg(), "x," + text + ",x", 3);
        }
        StringBuilder most = new StringBuilder("g");
        for (int i = 1; i < 30; i++) {
            most.append(i % 2 == 1 ? ",s" : ",g");
        }
        GrainLeg leg = new GrainLeg();
        due.performs(leg, most.toString(), 30);
        due.is("length", leg.count(16), 59);
        due.is("the last one was s", leg.count(11), 0);
    }

    private static void faults(Due due) {
        Object[][] textFault = {
            {"", 0}, {",", 0}, {" g", 0}, {"G", 0}, {"q", 0}, {"1", 0}, {"-1", 0}, {"d", 1}, {"t", 1}, {"f", 1},
            {"c", 1}, {"a", 1}, {"w", 1}, {"a-", 2}, {"g,", 2}, {"d3,", 3}, {"w9,t", 4},
            {"d7", 1}, {"d9", 1}, {"d00", 2}, {"d01", 2}, {"d10", 2}, {"d-1", 1}, {"d+", 1}, {"d/", 1}, {"d:", 1},
            {"t201", 3}, {"t209", 3}, {"t210", 3}, {"t300", 3}, {"t999", 3}, {"t2000", 4}, {"t1999", 4}, {"t00", 2},
            {"t010", 2}, {"t-1", 1}, {"t20 ", 3}, {"t,", 1},
            {"f41", 2}, {"f50", 2}, {"f400", 3}, {"f100", 3}, {"f99", 2}, {"f05", 2},
            {"c0", 1}, {"c21", 2}, {"c30", 2}, {"c200", 3}, {"c100", 3}, {"c00", 1}, {"c05", 1},
            {"a-0", 2}, {"a10", 2}, {"a00", 2}, {"a--1", 2}, {"a-10", 3}, {"a+1", 1}, {"a,", 1}, {"a-,", 2},
            {"w0", 1}, {"w100", 3}, {"w999", 3}, {"w01", 1}, {"w-1", 1}, {"w990", 3},
            {"gs", 1}, {"g s", 1}, {"g1", 1}, {"s0", 1}, {"o-", 1}, {"x.", 1}, {"r;", 1}, {"g,,s", 2}, {"g, s", 2},
            {"d3f40", 2}, {"a-9g", 3}, {"w9w9", 2}, {"d3,f40,t0,o,g,w99,c0", 19}, {"g,w5,d7,q", 6}};
        for (Object[] row : textFault) {
            GrainLeg leg = new GrainLeg();
            due.performs(leg, (String) row[0], -200 - (Integer) row[1]);
            due.is("a fault is no stop", leg.stopped(0), GrainLeg.NONE);
            due.is("nothing is done", leg.count(11) + leg.count(14) + leg.count(15), 0);
            due.is("the text stays", leg.count(16), ((String) row[0]).length());
        }
        char[] near = {(char) ('0' + 256), (char) ('3' + 65280), (char) 0x663};
        for (char digit : near) {
            due.performs(new GrainLeg(), "d" + digit, -201);
            due.performs(new GrainLeg(), "t1" + digit, -202);
        }
        due.performs(new GrainLeg(), "" + (char) ('g' + 256), -200);
    }

    private static void faultsOfLongTexts(Due due) {
        StringBuilder text = new StringBuilder();
        for (int i = 0; i < 20; i++) {
            text.append("w9,");
        }
        due.performs(new GrainLeg(), text.toString(), -260);
        due.performs(new GrainLeg(), text.substring(0, 59), 20);
        due.performs(new GrainLeg(), text.substring(0, 58) + ",", -258);
        due.performs(new GrainLeg(), text.substring(0, 59) + "9", 20);
        due.performs(new GrainLeg(), text.substring(0, 57) + "w1d", -259);
        due.performs(new GrainLeg(), text.substring(0, 57) + "w1", 20);
    }

    private static void everyCommand(Due due) {
        GrainLeg leg = new GrainLeg();
        due.performs(leg, "d4,t123,f17,c12,a-5", 5);
        int[] numbers = {4, 123, 17, 12, -5};
        for (int i = 0; i < 5; i++) {
            due.is("number " + i, leg.count(20 + i), numbers[i]);
        }
        due.performs(leg, "g,o,a0,w12", 4);
        due.is("runs", leg.count(11), 1);
        due.is("open", leg.count(12), 1);
        due.is("ticks", leg.count(14), 12);
        due.is("fed", leg.count(4), 12 * 17);
        due.is("alignment", leg.count(24), 0);
        due.performs(leg, "x,s", 2);
        due.is("runs", leg.count(11), 0);
        due.is("open", leg.count(12), 0);
        GrainLeg tripped = Legs.trippedForWarmth();
        due.performs(tripped, "w27,r,a3,g,o", 5);
        due.is("reason", tripped.count(13), GrainLeg.NONE);
        due.is("runs", tripped.count(11), 1);
        due.is("alignment", tripped.count(24), 3);
    }

    private static void oneAct(Due due) {
        GrainLeg leg = new GrainLeg();
        due.performs(leg, "d4,d5,d6,g,o,w9", 6);
        due.is("one state", leg.count(15), 1);
        due.is("the text stays", leg.count(16), 15);
        due.is("perform() again: the same without a change of numbers", leg.perform(), 6);
        due.is("ticks", leg.count(14), 18);
        due.is("two states", leg.count(15), 2);
        due.is("undo()", leg.undo(), 1);
        due.is("ticks", leg.count(14), 9);
        due.is("undo()", leg.undo(), 0);
        due.is("ticks", leg.count(14), 0);
        due.is("drive", leg.count(20), 3);
        due.is("runs", leg.count(11), 0);
        due.is("the text stays over undo()", leg.count(16), 15);
        // Each of these would return NONE, which stops nothing; the call is an act all the same.
        due.performs(leg, "d3,t60,s,x,r", 5);
        due.is("one state", leg.count(15), 1);
    }

    private static void stops(Due due) {
        GrainLeg leg = new GrainLeg();
        due.is("stopped(0)", leg.stopped(0), GrainLeg.NONE);
        due.is("stopped(1)", leg.stopped(1), GrainLeg.NONE);
        due.is("stopped(2)", leg.stopped(2), GrainLeg.BAD_VALUE);
        due.is("stopped(-1)", leg.stopped(-1), GrainLeg.BAD_VALUE);
        due.performs(leg, "d6,a9,g,w9,t99,g,w1", GrainLeg.NOT_POSSIBLE);
        due.is("the second g", leg.stopped(0), 5);
        due.is("its error", leg.stopped(1), GrainLeg.NOT_POSSIBLE);
        due.is("stopped(2)", leg.stopped(2), GrainLeg.BAD_VALUE);
        due.performs(leg, "d6,a9,g,w3,o", GrainLeg.NOT_POSSIBLE);
        due.is("an opening is stopped", leg.stopped(0), 4);
        due.performs(leg, "d6,a9,g,w3,x,s,r", GrainLeg.NOT_POSSIBLE);
        due.is("a reset is stopped", leg.stopped(0), 6);
        due.is("its error", leg.stopped(1), GrainLeg.NOT_POSSIBLE);
        due.performs(leg, "d6,a9,g,w30,r", 5);
        due.is("the stop is still told", leg.stopped(0), 6);
        due.performs(leg, "d7", -201);
        due.is("the stop is still told", leg.stopped(0), 6);
        due.is("undo()", leg.undo(), 0);
        due.is("the stop is no part of the state", leg.stopped(0), 6);
        GrainLeg tripped = Legs.trippedForWarmth();
        due.performs(tripped, "g", GrainLeg.NOT_POSSIBLE);
        due.is("the first command", tripped.stopped(0), 0);
    }

    private static void stopsThatChangeNothing(Due due) {
        GrainLeg leg = new GrainLeg();
        due.performs(leg, "f5,o,g,w7", 4);
        due.is("keep()", leg.keep(), 7);
        int[] before = new int[25];
        for (int what = 0; what < 25; what++) {
            before[what] = leg.count(what);
        }
        due.performs(leg, "d6,t9,f40,c20,a9,w40,s,x,o", GrainLeg.NOT_POSSIBLE);
        for (int what = 0; what < 25; what++) {
            due.is("count(" + what + ")", leg.count(what), what == 16 ? 26 : before[what]);
        }
        for (int sensor = 0; sensor < 3; sensor++) {
            due.is("its count", leg.sensor(sensor, 1), 0);
            due.is("its trips", leg.sensor(sensor, 3), 0);
        }
        due.is("no trip", leg.trip(0, 0), GrainLeg.NONE);
        due.is("undo()", leg.undo(), 0);
        due.is("the state before the act before", leg.count(14), 0);
    }

    private static void tooManyTicks(Due due) {
        GrainLeg leg = Legs.atTick(99800);
        due.performs(leg, "w99,w99,w1", 3);
        due.is("perform() again", leg.perform(), GrainLeg.NOT_POSSIBLE);
        due.is("the first w", leg.stopped(0), 0);
        due.is("its error", leg.stopped(1), GrainLeg.FULL);
        due.is("ticks", leg.count(14), 99999);
        due.is("undo()", leg.undo(), 3);
    }
}
