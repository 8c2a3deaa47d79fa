import java.util.Arrays;

/** The sentences of 'Terms: texts' and of promises 9 to 12 that name a boundary case, each with a test of its own. */
public final class EdgesOfTextsTest {
    private static final String LETTERS = "dtfcagsoxrw";
    private static final String DIGITS = "0123456789";

    public static void main(String[] args) {
        Due due = new Due("EdgesOfTextsTest");
        sixtyCharacters(due);
        emptyAtFirst(due);
        anyCharacter(due);
        lengthThatItHad(due);
        oneCommandOrMore(due);
        commaBetween(due);
        mostCommands(due);
        whatMayBeginACommand(due);
        whatMayFollow(due);
        rangesInTexts(due);
        minusAndZero(due);
        zeroInFront(due);
        greaterThanItsRange(due);
        zeroWhereItBeginsAtOne(due);
        endsTooEarly(due);
        faultAtTheLastCharacter(due);
        theFirstFaultIsTold(due);
        theTextStays(due);
        allOfThemOrNone(due);
        noneStopsNothing(due);
        stoppedAtFirst(due);
        numberOfTheStoppedCommand(due);
        errorOfTheStoppedCommand(due);
        aFaultIsNoStop(due);
        due.end();
    }

    private static void sixtyCharacters(Due due) {
        due.sentence("There is a text of at most 60 characters");
        GrainLeg leg = new GrainLeg();
        for (int length = 1; length <= 60; length++) {
            due.is("type", leg.type(length % 2 == 1 ? 's' : ','), length);
            due.is("its length", leg.count(16), length);
        }
        due.changesNothing(leg, "type the 61st", () -> leg.type('s'), GrainLeg.FULL);
        due.is("perform() ends too early, and has no s behind the last comma", leg.perform(), -260);
        due.is("clearText()", leg.clearText(), 60);
        due.is("there is room again", leg.type('s'), 1);
    }

    private static void emptyAtFirst(Due due) {
        due.sentence("empty at first");
        due.is("count(16)", new GrainLeg().count(16), 0);
        due.is("clearText()", new GrainLeg().clearText(), 0);
        due.is("perform()", new GrainLeg().perform(), -200);
        due.is("type('g')", new GrainLeg().type('g'), 1);
    }

    private static void anyCharacter(Due due) {
        due.sentence("character: any character");
        GrainLeg leg = new GrainLeg();
        int[] any = {0, 1, 9, 10, 32, 47, 58, 127, 128, 255, 256, 55296, 57343, 65535};
        for (int i = 0; i < any.length; i++) {
            due.is("type " + any[i], leg.type((char) any[i]), i + 1);
        }
        due.is("perform()", leg.perform(), -200);
        due.is("clearText()", leg.clearText(), any.length);
    }

    private static void lengthThatItHad(Due due) {
        due.sentence("Returns the length that it had");
        for (int length = 0; length <= 60; length += 12) {
            GrainLeg leg = new GrainLeg();
            due.typeAnew(leg, "x".repeat(length));
            due.is("clearText()", leg.clearText(), length);
            due.is("count(16)", leg.count(16), 0);
            due.is("clearText() again", leg.clearText(), 0);
            due.is("nothing is left of it", leg.perform(), -200);
        }
    }

    private static void oneCommandOrMore(Due due) {
        due.sentence("A text of commands is one or more commands");
        due.performs(new GrainLeg(), "", -200);
        due.performs(new GrainLeg(), "g", 1);
        due.performs(new GrainLeg(), "g,s", 2);
    }

    private static void commaBetween(Due due) {
        due.sentence("with \",\" between two");
        Object[][] textAnswer = {{",", -200}, {",g", -200}, {"g,", -202}, {"gs", -201}, {"g,,s", -202}, {"g,s,", -204},
            {"g;s", -201}, {"g ,s", -201}, {"g, s", -202}, {"d3g", -202}, {"d3,g", 2}, {"a-9,g", 2}};
        for (Object[] row : textAnswer) {
            due.performs(new GrainLeg(), (String) row[0], (Integer) row[1]);
        }
    }

    private static void mostCommands(Due due) {
        due.sentence("Returns how many commands there are");
        for (int commands = 1; commands <= 30; commands++) {
            GrainLeg leg = new GrainLeg();
            due.performs(leg, "x,".repeat(commands - 1) + "d4", commands);
            due.is("the last one was done", leg.count(20), 4);
        }
        GrainLeg full = new GrainLeg();
        due.performs(full, "x,".repeat(28) + "f40", 29);
        due.is("the last one was done", full.count(22), 40);
    }

    /** Each character of 0 to 300: it is refused at this place, or the text goes on or ends too early behind it. */
    private static void isAllowed(Due due, String text, String allowed) {
        for (char character = 0; character <= 300; character++) {
            GrainLeg leg = new GrainLeg();
            due.typeAnew(leg, text);
            leg.type(character);
            boolean isRefused = leg.perform() == -200 - text.length();
            due.is((int) character + " behind \"" + text + "\" is refused", isRefused ? 1 : 0,
                allowed.indexOf(character) < 0 ? 1 : 0);
        }
    }

    private static void whatMayBeginACommand(Due due) {
        due.sentence("\"d\", \"t\", \"f\" or \"c\" .. \"a\" .. \"g\" .. \"s\" .. \"o\" .. \"x\" .. \"r\" .. \"w\"");
        isAllowed(due, "", LETTERS);
        isAllowed(due, "g,", LETTERS);
        isAllowed(due, "w99,", LETTERS);
    }

    private static void whatMayFollow(Due due) {
        due.sentence("The fault of the text is the index of the first character that is not allowed at its place");
        String[][] textAllowed = {{"g", ","}, {"s", ","}, {"o", ","}, {"x", ","}, {"r", ","}, {"d", "0123456"},
            {"d0", ","}, {"d6", ","}, {"t", DIGITS}, {"t0", ","}, {"t1", DIGITS + ","}, {"t2", DIGITS + ","},
            {"t3", DIGITS + ","}, {"t9", DIGITS + ","}, {"t10", DIGITS + ","}, {"t19", DIGITS + ","}, {"t20", "0,"},
            {"t21", ","}, {"t99", ","}, {"t199", ","}, {"t200", ","}, {"f", DIGITS}, {"f0", ","}, {"f3", DIGITS + ","},
            {"f4", "0,"}, {"f5", ","}, {"f39", ","}, {"f40", ","}, {"c", "123456789"}, {"c1", DIGITS + ","},
            {"c2", "0,"}, {"c3", ","}, {"c20", ","}, {"a", "-" + DIGITS}, {"a0", ","}, {"a9", ","},
            {"a-", "123456789"}, {"a-1", ","}, {"a-9", ","}, {"w", "123456789"}, {"w1", DIGITS + ","},
            {"w9", DIGITS + ","}, {"w10", ","}, {"w99", ","}};
        for (String[] row : textAllowed) {
            isAllowed(due, row[0], row[1]);
        }
    }

    private static void rangesInTexts(Due due) {
        due.sentence("a number (the numbers 0 to 3, in their ranges), \"w\" and a number from 1 to 99");
        String letters = "dtfcaw";
        int[][] ranges = {{0, 6}, {0, 200}, {0, 40}, {1, 20}, {-9, 9}, {1, 99}};
        for (int i = 0; i < ranges.length; i++) {
            for (int value = -11; value <= 211; value++) {
                String text = letters.charAt(i) + Integer.toString(value);
                GrainLeg leg = new GrainLeg();
                due.typeAnew(leg, text);
                boolean isIn = value >= ranges[i][0] && value <= ranges[i][1];
                due.is("perform \"" + text + "\" does it", leg.perform() == 1 ? 1 : 0, isIn ? 1 : 0);
                if (isIn) {
                    due.is("what \"" + text + "\" did", leg.count(i == 5 ? 14 : 20 + i), value);
                }
            }
        }
    }

    private static void minusAndZero(Due due) {
        due.sentence("the alignment; \"a-0\" is not allowed");
        Object[][] textAnswer = {{"a0", 1}, {"a-0", -202}, {"a-1", 1}, {"a-9", 1}, {"a-", -202}, {"a", -201},
            {"a--1", -202}, {"a1-", -202}, {"a-10", -203}, {"a10", -202}, {"d-1", -201}, {"t-0", -201}, {"w-1", -201}};
        for (Object[] row : textAnswer) {
            due.performs(new GrainLeg(), (String) row[0], (Integer) row[1]);
        }
    }

    private static void zeroInFront(Due due) {
        due.sentence("Numbers have no zero in front unless they are the single digit 0");
        Object[][] textAnswer = {{"d0", 1}, {"t0", 1}, {"f0", 1}, {"a0", 1}, {"d00", -202}, {"d03", -202},
            {"t00", -202}, {"t07", -202}, {"t0200", -202}, {"f00", -202}, {"f01", -202}, {"a00", -202}, {"a01", -202}};
        for (Object[] row : textAnswer) {
            due.performs(new GrainLeg(), (String) row[0], (Integer) row[1]);
        }
    }

    private static void greaterThanItsRange(Due due) {
        due.sentence("a digit by which a number would be greater than its range is not allowed");
        Object[][] textAnswer = {{"d6", 1}, {"d7", -201}, {"d60", -202}, {"d10", -202}, {"t200", 1}, {"t201", -203},
            {"t210", -203}, {"t300", -203}, {"t2000", -204}, {"t20000000000", -204}, {"f40", 1}, {"f41", -202},
            {"f50", -202}, {"f400", -203}, {"c20", 1}, {"c21", -202}, {"c30", -202}, {"c200", -203}, {"w99", 1},
            {"w100", -203}, {"w990", -203}, {"w4294967297", -203}};
        for (Object[] row : textAnswer) {
            due.performs(new GrainLeg(), (String) row[0], (Integer) row[1]);
        }
    }

    private static void zeroWhereItBeginsAtOne(Due due) {
        due.sentence("nor is a 0 where it begins at 1");
        Object[][] textAnswer = {{"c0", -201}, {"c00", -201}, {"c01", -201}, {"c1", 1}, {"c10", 1}, {"w0", -201},
            {"w00", -201}, {"w01", -201}, {"w1", 1}, {"w10", 1}, {"g,c0", -203}};
        for (Object[] row : textAnswer) {
            due.performs(new GrainLeg(), (String) row[0], (Integer) row[1]);
        }
    }

    private static void endsTooEarly(Due due) {
        due.sentence("or the length of the text if it ends too early (the empty text does)");
        String[] texts = {"", "d", "t", "f", "c", "a", "a-", "w", "g,", "d3,", "g,d", "g,s,a-", "w99,"};
        for (String text : texts) {
            due.performs(new GrainLeg(), text, -200 - text.length());
        }
        due.performs(new GrainLeg(), "t150,".repeat(12), -260);
        due.performs(new GrainLeg(), "s,".repeat(30), -260);
        due.performs(new GrainLeg(), "s,".repeat(29) + "a-", -260);
        due.performs(new GrainLeg(), "w1,".repeat(19) + "s,d", -260);
    }

    private static void faultAtTheLastCharacter(Due due) {
        due.sentence("the index, from 0, of the first character that is not allowed at its place");
        due.performs(new GrainLeg(), "q", -200);
        due.performs(new GrainLeg(), "s,".repeat(29) + "sq", -259);
        due.performs(new GrainLeg(), "s,".repeat(29) + "d7", -259);
        due.performs(new GrainLeg(), "s,".repeat(29) + ",g", -258);
        due.performs(new GrainLeg(), "s,".repeat(29) + "d6", 30);
    }

    private static void theFirstFaultIsTold(Due due) {
        due.sentence("of the first character that is not allowed");
        due.performs(new GrainLeg(), "q,d9,c0", -200);
        due.performs(new GrainLeg(), "s,d9,c0", -203);
        due.performs(new GrainLeg(), "s,d6,c0", -206);
        due.performs(new GrainLeg(), "s,d6,c1,", -208);
    }

    private static void theTextStays(Due due) {
        due.sentence("Does the commands of the text, which stays");
        GrainLeg leg = new GrainLeg();
        due.performs(leg, "w9,x", 2);
        due.is("count(16)", leg.count(16), 4);
        due.is("perform() again", leg.perform(), 2);
        due.is("ticks", leg.count(14), 18);
        due.is("type", leg.type('g'), 5);
        due.is("perform() with a fault", leg.perform(), -204);
        due.is("count(16)", leg.count(16), 5);
        GrainLeg stopped = Legs.trippedForSlip();
        due.performs(stopped, "x,g", GrainLeg.NOT_POSSIBLE);
        due.is("count(16) when it was stopped", stopped.count(16), 3);
        due.is("perform() again", stopped.perform(), GrainLeg.NOT_POSSIBLE);
    }

    private static void allOfThemOrNone(Due due) {
        due.sentence("all of them, or none");
        String[] texts = {"g", "d6,g", "d6,t9,f9,c9,a9,w9,g", "w9,x,w9,r"};
        for (String text : texts) {
            GrainLeg leg = Legs.trippedForSlip();
            due.typeAnew(leg, text);
            leg.keep();
            int[] before = Told.all(leg);
            int states = leg.count(15);
            due.is("perform \"" + text + "\"", leg.perform(), GrainLeg.NOT_POSSIBLE);
            due.isTrue("none is done", Arrays.equals(before, Told.all(leg)));
            due.is("no state is recorded", leg.count(15), states);
        }
        GrainLeg leg = Legs.trippedForSlip();
        due.performs(leg, "t49,w1,d9", -208);
        due.is("none is done where the text has a fault", leg.count(14), 8);
        due.is("nor set", leg.count(21), 0);
        due.performs(leg, "t50,w1,r,g", 4);
        due.is("all are done", leg.count(11), 1);
    }

    private static void noneStopsNothing(Due due) {
        due.sentence("one that would return NONE does nothing");
        GrainLeg leg = new GrainLeg();
        due.performs(leg, "d3,t60,f6,c8,a0,s,x,r", 8);
        due.is("the call is an act all the same", leg.count(15), 1);
        due.is("no stop", leg.stopped(0), GrainLeg.NONE);
        due.performs(leg, "g,g,o,o,d4", 5);
        due.is("what follows is done", leg.count(20), 4);
        for (int commands = 1; commands <= 30; commands++) {
            GrainLeg still = new GrainLeg();
            due.performs(still, "x,".repeat(commands - 1) + "s", commands);
            due.is("the call is an act all the same", still.count(15), 1);
        }
    }

    private static void stoppedAtFirst(Due due) {
        due.sentence("NONE if none was stopped yet");
        GrainLeg leg = new GrainLeg();
        due.is("stopped(0)", leg.stopped(0), GrainLeg.NONE);
        due.is("stopped(1)", leg.stopped(1), GrainLeg.NONE);
        due.is("stopped(-1)", leg.stopped(-1), GrainLeg.BAD_VALUE);
        due.is("stopped(2)", leg.stopped(2), GrainLeg.BAD_VALUE);
        due.performs(leg, "g", 1);
        due.is("stopped(0) when all were done", leg.stopped(0), GrainLeg.NONE);
        due.is("stopped(1) when all were done", leg.stopped(1), GrainLeg.NONE);
    }

    private static void numberOfTheStoppedCommand(Due due) {
        due.sentence("0 for the number of the command in its text, from 0");
        GrainLeg leg = Legs.trippedForSlip();
        due.performs(leg, "g", GrainLeg.NOT_POSSIBLE);
        due.is("the first", leg.stopped(0), 0);
        due.performs(leg, "x,".repeat(29) + "g", GrainLeg.NOT_POSSIBLE);
        due.is("the last of the most", leg.stopped(0), 29);
        due.performs(leg, "x,o,g,r", GrainLeg.NOT_POSSIBLE);
        due.is("the first that is stopped", leg.stopped(0), 1);
        due.performs(leg, "x,x", 2);
        due.is("the latest stop is told still", leg.stopped(0), 1);
        due.is("undo()", leg.undo(), 3);
        due.is("also behind undo()", leg.stopped(0), 1);
    }

    private static void errorOfTheStoppedCommand(Due due) {
        due.sentence("1 for the error that the method would have returned");
        GrainLeg leg = Legs.atTick(99999);
        due.performs(leg, "g,w1", GrainLeg.NOT_POSSIBLE);
        due.is("stopped(0)", leg.stopped(0), 1);
        due.is("stopped(1)", leg.stopped(1), GrainLeg.FULL);
        due.is("stands", leg.count(11), 0);
        String[] texts = {"g", "o", "r"};
        for (String text : texts) {
            GrainLeg tripped = Legs.trippedForSlip();
            due.performs(tripped, text, GrainLeg.NOT_POSSIBLE);
            due.is("stopped(1) by " + text, tripped.stopped(1), GrainLeg.NOT_POSSIBLE);
            due.is("stopped(2)", tripped.stopped(2), GrainLeg.BAD_VALUE);
            due.is("stopped(-1)", tripped.stopped(-1), GrainLeg.BAD_VALUE);
        }
    }

    private static void aFaultIsNoStop(Due due) {
        due.sentence("-200 minus the fault of the text if it has one (which is an error)");
        GrainLeg leg = new GrainLeg();
        due.typeAnew(leg, "g,d7");
        due.changesNothing(leg, "perform()", () -> leg.perform(), -203);
        due.is("stopped(0)", leg.stopped(0), GrainLeg.NONE);
        GrainLeg tripped = Legs.trippedForSlip();
        due.performs(tripped, "x,g", GrainLeg.NOT_POSSIBLE);
        due.performs(tripped, "g,d7", -203);
        due.is("the fault is told before a stop", tripped.stopped(0), 1);
    }
}
