import java.util.Random;
import java.util.function.IntSupplier;

/** Promises 1 to 22: long runs of calls drawn with fixed seeds, each answer compared with PlainLeg's. */
public final class ModelTest {
    private static final int RUNS = 1500;
    /** Nothing is promised of an object behind its 512th call; a step makes up to 30 calls, compareAll() 73. */
    private static final int CALLS = 512 - 30 - 73;
    private static final String LETTERS = "dtfcagsoxrw";
    private static final String CHARACTERS = "dtfcagsoxrw,,,,-0123456789 G\u00e9\u0100";

    private final Due due;
    private final Random random;
    private final int kind;
    private GrainLeg leg;
    private PlainLeg plain;
    private int calls;

    private ModelTest(Due due, int seed) {
        this.due = due;
        this.random = new Random(seed);
        this.kind = seed % 3;
    }

    public static void main(String[] args) {
        Due due = new Due("ModelTest");
        for (int seed = 0; seed < RUNS; seed++) {
            new ModelTest(due, seed).compare(seed);
        }
        due.end();
    }

    private void compare(int seed) {
        leg = new GrainLeg();
        plain = new PlainLeg();
        calls = 0;
        while (calls < CALLS) {
            step("run " + seed + " call " + calls + ": ");
        }
        compareAll("run " + seed + " at its end: ");
    }

    private void both(String call, IntSupplier got, IntSupplier want) {
        calls++;
        due.is(call, got.getAsInt(), want.getAsInt());
    }

    private int any(int least, int most) {
        return least + random.nextInt(most - least + 1);
    }

    private void step(String at) {
        int draw = any(0, 99);
        if (draw < 50) {
            act(at, draw);
        } else if (draw < 62) {
            texts(at, draw);
        } else if (draw < 72) {
            history(at, draw);
        } else {
            told(at, draw);
        }
    }

    private void act(String at, int draw) {
        if (draw < 16) {
            set(at);
        } else if (draw < 22) {
            boolean open = any(0, 3) > 0;
            both(at + "gate(" + open + ")", () -> leg.gate(open), () -> plain.gate(open));
        } else if (draw < 28) {
            both(at + "start()", () -> leg.start(), () -> plain.start());
        } else if (draw < 30) {
            both(at + "stop()", () -> leg.stop(), () -> plain.stop());
        } else if (draw < 34) {
            both(at + "reset()", () -> leg.reset(), () -> plain.reset());
        } else if (draw < 37) {
            int measures = any(0, 3) > 0 ? any(0, 120) : any(-2, 302);
            both(at + "clean(" + measures + ")", () -> leg.clean(measures), () -> plain.clean(measures));
        } else {
            int ticks = any(0, 9) > 0 ? any(1, 12) : any(-1, 202);
            both(at + "run(" + ticks + ")", () -> leg.run(ticks), () -> plain.run(ticks));
        }
    }

    private void set(String at) {
        int which = any(0, 19) == 0 ? any(-1, 5) : any(0, 4);
        int value = numberFor(which);
        both(at + "set(" + which + ", " + value + ")", () -> leg.set(which, value), () -> plain.set(which, value));
    }

    private int numberFor(int which) {
        switch (which) {
            case 0: return any(-1, 7);
            case 1: return any(0, 2) == 0 ? any(-1, 201) : any(0, 60);
            case 2: return any(-1, 41);
            case 3: return any(0, 21);
            default: return kind == 0 && any(0, 3) > 0 ? any(-4, 4) : any(-10, 10);
        }
    }

    private void texts(String at, int draw) {
        if (draw < 53) {
            typeSome(at, any(0, 2) == 0 ? characters() : commands());
        } else if (draw < 57) {
            both(at + "clearText()", () -> leg.clearText(), () -> plain.clearText());
            typeSome(at, commands());
            both(at + "perform()", () -> leg.perform(), () -> plain.perform());
        } else if (draw < 59) {
            both(at + "perform()", () -> leg.perform(), () -> plain.perform());
        } else {
            int what = any(-1, 2);
            both(at + "stopped(" + what + ")", () -> leg.stopped(what), () -> plain.stopped(what));
        }
    }

    private void typeSome(String at, String text) {
        for (int i = 0; i < text.length(); i++) {
            char character = text.charAt(i);
            both(at + "type " + (int) character, () -> leg.type(character), () -> plain.type(character));
        }
    }

    private String characters() {
        StringBuilder text = new StringBuilder();
        for (int i = any(1, 4); i > 0; i--) {
            text.append(CHARACTERS.charAt(any(0, CHARACTERS.length() - 1)));
        }
        return text.toString();
    }

    private String commands() {
        StringBuilder text = new StringBuilder();
        for (int i = any(1, 4); i > 0; i--) {
            char letter = LETTERS.charAt(any(0, LETTERS.length() - 1));
            text.append(text.length() > 0 ? "," : "").append(letter);
            int which = "dtfca".indexOf(letter);
            if (which >= 0) {
                text.append(Math.max(which == 4 ? -9 : 0, numberFor(which)));
            } else if (letter == 'w') {
                text.append(any(0, 14));
            }
        }
        return text.toString();
    }

    private void history(String at, int draw) {
        if (draw < 66) {
            both(at + "undo()", () -> leg.undo(), () -> plain.undo());
        } else if (draw < 70) {
            both(at + "keep()", () -> leg.keep(), () -> plain.keep());
        } else {
            both(at + "restore()", () -> leg.restore(), () -> plain.restore());
        }
    }

    private void told(String at, int draw) {
        if (draw < 76) {
            tellPlace(at, any(-1, 12));
        } else if (draw < 81) {
            tellSensor(at, any(-1, 3), any(-1, 4));
        } else if (draw < 84) {
            both(at + "tripsIn()", () -> leg.tripsIn(), () -> plain.tripsIn());
        } else if (draw < 86) {
            int tension = any(-1, 201);
            int ticks = any(0, 4) == 0 ? any(-1, 202) : any(1, 30);
            both(at + "ifTension(" + tension + ", " + ticks + ")",
                () -> leg.ifTension(tension, ticks), () -> plain.ifTension(tension, ticks));
        } else if (draw < 87) {
            int ticks = any(0, 4) == 0 ? any(-1, 102) : any(1, 30);
            both(at + "leastTension(" + ticks + ")", () -> leg.leastTension(ticks), () -> plain.leastTension(ticks));
        } else if (draw < 91) {
            tellTrip(at, any(-1, 7), any(-1, 3));
        } else {
            tellCount(at, any(-1, 25));
        }
    }

    private void tellPlace(String at, int place) {
        both(at + "bucket(" + place + ")", () -> leg.bucket(place), () -> plain.bucket(place));
    }

    private void tellSensor(String at, int sensor, int what) {
        both(at + "sensor(" + sensor + ", " + what + ")",
            () -> leg.sensor(sensor, what), () -> plain.sensor(sensor, what));
    }

    private void tellTrip(String at, int back, int what) {
        both(at + "trip(" + back + ", " + what + ")", () -> leg.trip(back, what), () -> plain.trip(back, what));
    }

    private void tellCount(String at, int what) {
        both(at + "count(" + what + ")", () -> leg.count(what), () -> plain.count(what));
    }

    private void compareAll(String at) {
        for (int what = 0; what <= 24; what++) {
            tellCount(at, what);
        }
        for (int place = 0; place < 12; place++) {
            tellPlace(at, place);
        }
        for (int i = 0; i < 12; i++) {
            tellSensor(at, i / 4, i % 4);
        }
        for (int i = 0; i < 18; i++) {
            tellTrip(at, i / 3, i % 3);
        }
        int gone = leg.count(0) + leg.count(1) + leg.count(2) + leg.count(3) + leg.count(5);
        due.is(at + "all the grain", gone, leg.count(4));
    }
}
