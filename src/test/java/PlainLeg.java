import java.util.ArrayDeque;
import java.util.ArrayList;
import java.util.Arrays;
import java.util.Deque;
import java.util.List;
import java.util.regex.Matcher;
import java.util.regex.Pattern;

/**
 * The document written down a second time, in another way, for ModelTest: states are copied whole,
 * buckets are moved one by one, and the grammar of the texts is a regular expression.
 */
final class PlainLeg {
    private static final int[][] RANGES = {{0, 6}, {0, 200}, {0, 40}, {1, 20}, {-9, 9}};
    private static final String COMMAND = "(d[0-6]|t(0|[1-9][0-9]?|1[0-9][0-9]|200)|f(0|[1-9]|[123][0-9]|40)"
        + "|c([1-9]|1[0-9]|20)|a(0|-?[1-9])|g|s|o|x|r|w[1-9][0-9]?)";
    private static final Pattern COMMANDS = Pattern.compile(COMMAND + "(," + COMMAND + ")*");

    private static final class State {
        int[] numbers = {3, 60, 6, 8, 0};
        int[] buckets = new int[12];
        int[] watched = new int[3];
        int[] tripsBy = new int[3];
        List<int[]> trips = new ArrayList<>();
        int boot, out, spilt, fed, hand, back, slip, cells, warmth, ticks;
        int tripped = -1;
        boolean runs, open;

        State copy() {
            State s = new State();
            s.numbers = numbers.clone();
            s.buckets = buckets.clone();
            s.watched = watched.clone();
            s.tripsBy = tripsBy.clone();
            s.trips = new ArrayList<>(trips);
            s.boot = boot;
            s.out = out;
            s.spilt = spilt;
            s.fed = fed;
            s.hand = hand;
            s.back = back;
            s.slip = slip;
            s.cells = cells;
            s.warmth = warmth;
            s.ticks = ticks;
            s.tripped = tripped;
            s.runs = runs;
            s.open = open;
            return s;
        }

        int load() {
            int load = boot > 100 ? (boot - 100) / 2 : 0;
            for (int place = 1; place <= 6; place++) {
                load += buckets[place];
            }
            return load;
        }

        void intoBoot(int measures) {
            for (int i = 0; i < measures; i++) {
                if (boot < 300) {
                    boot++;
                } else {
                    spilt++;
                }
            }
        }

        void tick() {
            ticks++;
            if (open) {
                fed += numbers[2];
                intoBoot(numbers[2]);
            }
            slip = 0;
            cells = 0;
            if (runs) {
                int load = load();
                slip = load <= numbers[1] ? 0 : Math.min(100, (load - numbers[1]) * 2);
                cells = numbers[0] * (100 - slip) / 100;
            }
            for (int cell = 0; cell < cells; cell++) {
                int last = buckets[11];
                for (int place = 11; place > 0; place--) {
                    buckets[place] = buckets[place - 1];
                }
                buckets[0] = last;
                int atHead = buckets[6];
                buckets[6] = 0;
                if (cells >= 2) {
                    out += atHead;
                } else {
                    back += atHead / 2;
                    out += atHead - atHead / 2;
                    intoBoot(atHead / 2);
                }
                while (boot > 0 && buckets[0] < numbers[3]) {
                    buckets[0]++;
                    boot--;
                }
            }
            int aside = Math.abs(numbers[4]);
            if (aside > 3) {
                warmth += cells * (aside - 3);
            }
            warmth = warmth < 2 ? 0 : warmth - 2;
            boolean[] tooMuch = {slip > 20, boot >= 250, warmth >= 100};
            int[] waits = {3, 2, 1};
            for (int i = 0; i < 3; i++) {
                watched[i] = tooMuch[i] ? watched[i] + 1 : 0;
                if (runs && watched[i] >= waits[i]) {
                    runs = false;
                    open = false;
                    tripped = i;
                    tripsBy[i]++;
                    trips.add(new int[] {ticks, i, load()});
                }
            }
        }
    }

    private State now = new State();
    private State kept;
    private final Deque<State> history = new ArrayDeque<>();
    private String text = "";
    private int stoppedAt = -105;
    private int stoppedBy = -105;

    private static boolean isError(int answer) {
        return answer <= -101 && answer != -105;
    }

    private int act(State before, int answer) {
        if (isError(answer) || answer == -105) {
            return answer;
        }
        history.addLast(before);
        if (history.size() > 4) {
            history.removeFirst();
        }
        return answer;
    }

    private int doSet(int which, int value) {
        if (which < 0 || which > 4) {
            return -101;
        }
        if (value < RANGES[which][0] || value > RANGES[which][1]) {
            return -102;
        }
        int was = now.numbers[which];
        now.numbers[which] = value;
        return was == value ? -105 : was;
    }

    private int doGate(boolean open) {
        if (open && now.tripped >= 0) {
            return -104;
        }
        if (open == now.open) {
            return -105;
        }
        now.open = open;
        return now.boot;
    }

    private int doStart() {
        if (now.tripped >= 0) {
            return -104;
        }
        if (now.runs) {
            return -105;
        }
        now.runs = true;
        return now.load();
    }

    private int doStop() {
        if (!now.runs) {
            return -105;
        }
        now.runs = false;
        return Arrays.stream(now.buckets).sum();
    }

    private int doReset() {
        int reason = now.tripped;
        if (reason < 0) {
            return -105;
        }
        boolean[] fits = {now.load() <= now.numbers[1], now.boot < 150, now.warmth < 50};
        if (!fits[reason]) {
            return -104;
        }
        now.tripped = -1;
        return reason;
    }

    private int doRun(int ticks) {
        if (ticks < 1 || ticks > 200) {
            return -102;
        }
        if (now.ticks + ticks > 99999) {
            return -103;
        }
        int was = now.out;
        for (int i = 0; i < ticks; i++) {
            now.tick();
        }
        return now.out - was;
    }

    int set(int which, int value) {
        return act(now.copy(), doSet(which, value));
    }

    int gate(boolean open) {
        return act(now.copy(), doGate(open));
    }

    int start() {
        return act(now.copy(), doStart());
    }

    int stop() {
        return act(now.copy(), doStop());
    }

    int reset() {
        return act(now.copy(), doReset());
    }

    int clean(int measures) {
        if (measures < 1 || measures > 300) {
            return -102;
        }
        if (now.runs || now.boot < measures) {
            return -104;
        }
        State before = now.copy();
        now.boot -= measures;
        now.hand += measures;
        return act(before, now.boot);
    }

    int run(int ticks) {
        return act(now.copy(), doRun(ticks));
    }

    int type(char character) {
        if (text.length() == 60) {
            return -103;
        }
        text += character;
        return text.length();
    }

    int clearText() {
        int had = text.length();
        text = "";
        return had;
    }

    /** The first index behind which no text of commands goes on so; -1 if the text is one. */
    static int fault(String text) {
        for (int length = 1; length <= text.length(); length++) {
            Matcher matcher = COMMANDS.matcher(text.substring(0, length));
            if (!matcher.matches() && !matcher.hitEnd()) {
                return length - 1;
            }
        }
        return COMMANDS.matcher(text).matches() ? -1 : text.length();
    }

    int perform() {
        int fault = fault(text);
        if (fault >= 0) {
            return -200 - fault;
        }
        State before = now.copy();
        String[] commands = text.split(",");
        for (int i = 0; i < commands.length; i++) {
            int answer = doCommand(commands[i]);
            if (isError(answer)) {
                now = before;
                stoppedAt = i;
                stoppedBy = answer;
                return -104;
            }
        }
        return act(before, commands.length);
    }

    private int doCommand(String command) {
        char letter = command.charAt(0);
        int value = command.length() > 1 ? Integer.parseInt(command.substring(1)) : 0;
        return switch (letter) {
            case 'g' -> doStart();
            case 's' -> doStop();
            case 'o' -> doGate(true);
            case 'x' -> doGate(false);
            case 'r' -> doReset();
            case 'w' -> doRun(value);
            default -> doSet("dtfca".indexOf(letter), value);
        };
    }

    int stopped(int what) {
        return what == 0 ? stoppedAt : what == 1 ? stoppedBy : -102;
    }

    int undo() {
        if (history.isEmpty()) {
            return -105;
        }
        now = history.removeLast();
        return history.size();
    }

    int keep() {
        kept = now.copy();
        return now.ticks;
    }

    int restore() {
        if (kept == null) {
            return -105;
        }
        State before = now;
        now = kept.copy();
        return act(before, now.ticks);
    }

    int bucket(int place) {
        return place < 0 || place > 11 ? -101 : now.buckets[place];
    }

    int sensor(int sensor, int what) {
        if (sensor < 0 || sensor > 2) {
            return -101;
        }
        return switch (what) {
            case 0 -> new int[] {now.slip, now.boot, now.warmth}[sensor];
            case 1 -> now.watched[sensor];
            case 2 -> 3 - sensor;
            case 3 -> now.tripsBy[sensor];
            default -> -102;
        };
    }

    int tripsIn() {
        if (!now.runs) {
            return -104;
        }
        State ahead = now.copy();
        for (int passed = 1; passed <= 300; passed++) {
            ahead.tick();
            if (ahead.tripped >= 0) {
                return passed;
            }
        }
        return -105;
    }

    int ifTension(int tension, int ticks) {
        if (tension < 0 || tension > 200 || ticks < 1 || ticks > 200) {
            return -102;
        }
        State ahead = now.copy();
        ahead.numbers[1] = tension;
        for (int i = 0; i < ticks; i++) {
            ahead.tick();
        }
        return ahead.out - now.out;
    }

    int leastTension(int ticks) {
        if (ticks < 1 || ticks > 100) {
            return -102;
        }
        if (!now.runs) {
            return -104;
        }
        for (int tension = 0; tension <= 200; tension++) {
            State ahead = now.copy();
            ahead.numbers[1] = tension;
            for (int i = 0; i < ticks; i++) {
                ahead.tick();
            }
            if (ahead.tripped < 0) {
                return tension;
            }
        }
        return -105;
    }

    int trip(int back, int what) {
        if (back < 0 || what < 0 || what > 2) {
            return -102;
        }
        if (back >= 6 || back >= now.trips.size()) {
            return -105;
        }
        return now.trips.get(now.trips.size() - 1 - back)[what];
    }

    int count(int what) {
        if (what >= 20 && what <= 24) {
            return now.numbers[what - 20];
        }
        int[] counts = {now.boot, Arrays.stream(now.buckets).sum(), now.out, now.spilt, now.fed, now.hand,
            now.back, now.load(), now.slip, now.cells, now.warmth, now.runs ? 1 : 0, now.open ? 1 : 0,
            now.tripped < 0 ? -105 : now.tripped, now.ticks, history.size(), text.length()};
        return what < 0 || what > 16 ? -102 : counts[what];
    }
}
