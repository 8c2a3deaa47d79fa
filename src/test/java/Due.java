import java.util.Arrays;
import java.util.function.IntSupplier;

/** Compares answers with those that are due, and ends the test with exit code 1 if one is not. */
final class Due {
    private static final int MOST_PRINTED = 40;
    private static final long MOST_MILLISECONDS = 300_000;

    private final String test;
    private volatile String sentence = "";
    private int right;
    private int wrong;

    Due(String test) {
        this.test = test;
        endInTime();
    }

    /** A call that fails to end is a failure, too, and not a test that is waited for. */
    private void endInTime() {
        Thread guard = new Thread(() -> {
            try {
                Thread.sleep(MOST_MILLISECONDS);
            } catch (InterruptedException e) {
                return;
            }
            System.out.println(test + ": a call does not end" + sentence);
            Runtime.getRuntime().halt(1);
        });
        guard.setDaemon(true);
        guard.start();
    }

    /** Names the sentence of the document by which the next answers are due. */
    void sentence(String words) {
        sentence = " (\"" + words + "\")";
    }

    void is(String call, long got, long want) {
        if (got == want) {
            right++;
            return;
        }
        wrong++;
        if (wrong <= MOST_PRINTED) {
            System.out.println(test + ": " + call + " answered " + got + ", due is " + want + sentence);
        }
    }

    void isTrue(String what, boolean got) {
        is(what, got ? 1 : 0, 1);
    }

    /** The call answers so, and all that the leg tells is as it was. */
    void changesNothing(GrainLeg leg, String call, IntSupplier made, int want) {
        int[] before = Told.everything(leg);
        is(call, made.getAsInt(), want);
        isTrue(call + " changed nothing", Arrays.equals(before, Told.everything(leg)));
    }

    /** Puts the text in place of the one that was. */
    void typeAnew(GrainLeg leg, String text) {
        leg.clearText();
        for (int i = 0; i < text.length(); i++) {
            is("type " + text.charAt(i), leg.type(text.charAt(i)), i + 1);
        }
    }

    /** Types the text and performs it. */
    void performs(GrainLeg leg, String text, int want) {
        typeAnew(leg, text);
        is("perform \"" + text + "\"", leg.perform(), want);
    }

    void end() {
        System.out.println(test + ": " + right + " answers as due, " + wrong + " not");
        if (wrong > 0) {
            System.exit(1);
        }
    }
}
