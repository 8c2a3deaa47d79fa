/** A grain leg: what it does is told, as numbered promises, in ../shared/DOC.md. */
public final class GrainLeg {
    public static final int UNKNOWN = -101;
    public static final int BAD_VALUE = -102;
    public static final int FULL = -103;
    public static final int NOT_POSSIBLE = -104;
    public static final int NONE = -105;

    private static final int NUMBERS = 5;
    private static final int DRIVE = 0;
    private static final int TENSION = 1;
    private static final int FEED = 2;
    private static final int CAPACITY = 3;
    private static final int ALIGNMENT = 4;
    private static final int[] LEAST = {0, 0, 0, 1, -9};
    private static final int[] MOST = {6, 200, 40, 20, 9};
    private static final int[] FIRST = {3, 60, 6, 8, 0};

    private static final int PLACES = 12;
    private static final int HEAD = 6;
    private static final int BOOT_ROOM = 300;
    private static final int BOOT_WITHOUT_LOAD = 100;
    private static final int MOST_SLIP = 100;
    private static final int CELLS_THAT_THROW_ALL = 2;
    private static final int STEPS_ASIDE_WITHOUT_RUBBING = 3;
    private static final int COOLING = 2;

    private static final int SENSORS = 3;
    private static final int SLIP = 0;
    private static final int BOOT = 1;
    private static final int[] TOO_MUCH = {21, 250, 100};
    private static final int[] WAITS = {3, 2, 1};
    private static final int BOOT_FOR_RESET = 150;
    private static final int WARMTH_FOR_RESET = 50;

    private static final int TRIPS_KEPT = 6;
    private static final int STATES_KEPT = 4;
    private static final int TEXT_ROOM = 60;
    private static final int WELL = -1;
    private static final int FAULT_AT_START = -200;
    private static final int MOST_TICKS = 99999;
    private static final int MOST_TICKS_OF_RUN = 200;
    private static final int MOST_TICKS_OF_COMMAND = 99;
    private static final int TICKS_LOOKED_AHEAD = 300;
    private static final int MOST_TICKS_OF_LEAST = 100;
    private static final int COUNTED_NUMBERS = 20;

    private final Leg leg = new Leg();
    // Two spare legs made once: no call makes an object, however often it looks ahead or back.
    private final Leg before = new Leg();
    private final Leg trial = new Leg();
    private final History history = new History();
    private final Leg snapshot = new Leg();
    private boolean hasSnapshot;
    private final Text text = new Text();
    private int stopCommand = NONE;
    private int stopError = NONE;

    public GrainLeg() {
    }

    // ---- numbers, gate, drive

    public int set(int which, int value) {
        before.become(leg);
        return recorded(leg.setNumber(which, value));
    }

    public int gate(boolean open) {
        before.become(leg);
        return recorded(leg.moveGate(open));
    }

    public int start() {
        before.become(leg);
        return recorded(leg.switchOn());
    }

    public int stop() {
        before.become(leg);
        return recorded(leg.switchOff());
    }

    public int reset() {
        before.become(leg);
        return recorded(leg.forgetReason());
    }

    public int clean(int measures) {
        before.become(leg);
        return recorded(leg.takeByHand(measures));
    }

    public int run(int ticks) {
        before.become(leg);
        return recorded(leg.passTicks(ticks));
    }

    // ---- texts

    public int type(char character) {
        return text.append(character);
    }

    public int clearText() {
        return text.empty();
    }

    public int perform() {
        int fault = text.read();
        if (fault != WELL) {
            return FAULT_AT_START - fault;
        }
        before.become(leg);
        for (int i = 0; i < text.commands; i++) {
            int answer = carryOut(text.letterOf(i), text.valueOf(i));
            if (isError(answer)) {
                leg.become(before);
                stopCommand = i;
                stopError = answer;
                return NOT_POSSIBLE;
            }
        }
        return recorded(text.commands);
    }

    public int stopped(int what) {
        if (what == 0) {
            return stopCommand;
        }
        return what == 1 ? stopError : BAD_VALUE;
    }

    // ---- history

    public int undo() {
        return history.takeBack(leg) ? history.size : NONE;
    }

    public int keep() {
        snapshot.become(leg);
        hasSnapshot = true;
        return leg.ticks;
    }

    public int restore() {
        if (!hasSnapshot) {
            return NONE;
        }
        before.become(leg);
        leg.become(snapshot);
        return recorded(leg.ticks);
    }

    // ---- what is told

    public int bucket(int place) {
        return leg.belt.at(place);
    }

    public int sensor(int sensor, int what) {
        if (!isWithin(sensor, 0, SENSORS - 1)) {
            return UNKNOWN;
        }
        switch (what) {
            case 0: return leg.seenBy(sensor);
            case 1: return leg.tooLong[sensor];
            case 2: return WAITS[sensor];
            case 3: return leg.tripsOf[sensor];
            default: return BAD_VALUE;
        }
    }

    public int tripsIn() {
        if (!leg.runs) {
            return NOT_POSSIBLE;
        }
        trial.become(leg);
        return trial.ticksUntilTrip(TICKS_LOOKED_AHEAD);
    }

    public int ifTension(int tension, int ticks) {
        if (!isWithin(tension, LEAST[TENSION], MOST[TENSION]) || !isWithin(ticks, 1, MOST_TICKS_OF_RUN)) {
            return BAD_VALUE;
        }
        trial.become(leg);
        trial.numbers[TENSION] = tension;
        // Only run() is refused when the count of ticks would be too great, not a look ahead.
        trial.ticks = 0;
        return trial.passTicks(ticks);
    }

    public int leastTension(int ticks) {
        if (!isWithin(ticks, 1, MOST_TICKS_OF_LEAST)) {
            return BAD_VALUE;
        }
        if (!leg.runs) {
            return NOT_POSSIBLE;
        }
        // Each tension is tried from below: more tension moves more cells, which rub warmer,
        // so a tension that does well says nothing of those above or below it.
        for (int tension = LEAST[TENSION]; tension <= MOST[TENSION]; tension++) {
            trial.become(leg);
            trial.numbers[TENSION] = tension;
            if (trial.ticksUntilTrip(ticks) == NONE) {
                return tension;
            }
        }
        return NONE;
    }

    public int trip(int back, int what) {
        if (back < 0) {
            return BAD_VALUE;
        }
        switch (what) {
            case 0: return leg.trips.tickOf(back);
            case 1: return leg.trips.sensorOf(back);
            case 2: return leg.trips.loadOf(back);
            default: return BAD_VALUE;
        }
    }

    public int count(int what) {
        if (isWithin(what, COUNTED_NUMBERS, COUNTED_NUMBERS + NUMBERS - 1)) {
            return leg.numbers[what - COUNTED_NUMBERS];
        }
        switch (what) {
            case 0: return leg.grain.boot;
            case 1: return leg.belt.onAll();
            case 2: return leg.grain.given;
            case 3: return leg.grain.spilt;
            case 4: return leg.grain.fed;
            case 5: return leg.grain.takenByHand;
            case 6: return leg.grain.fallenBack;
            case 7: return leg.load();
            case 8: return leg.slip;
            case 9: return leg.cells;
            case 10: return leg.warmth;
            case 11: return leg.runs ? 1 : 0;
            case 12: return leg.gateOpen ? 1 : 0;
            case 13: return leg.reason;
            case 14: return leg.ticks;
            case 15: return history.size;
            case 16: return text.length;
            default: return BAD_VALUE;
        }
    }

    // ---- what the calls share

    /** Ends an act: records the state before it, unless the answer says that nothing was done. */
    private int recorded(int answer) {
        if (answer != NONE && !isError(answer)) {
            history.remember(before);
        }
        return answer;
    }

    private int carryOut(char letter, int value) {
        switch (letter) {
            case 'd': return leg.setNumber(DRIVE, value);
            case 't': return leg.setNumber(TENSION, value);
            case 'f': return leg.setNumber(FEED, value);
            case 'c': return leg.setNumber(CAPACITY, value);
            case 'a': return leg.setNumber(ALIGNMENT, value);
            case 'g': return leg.switchOn();
            case 's': return leg.switchOff();
            case 'o': return leg.moveGate(true);
            case 'x': return leg.moveGate(false);
            case 'r': return leg.forgetReason();
            case 'w': return leg.passTicks(value);
            default: return NONE;
        }
    }

    private static boolean isError(int answer) {
        return answer <= UNKNOWN && answer != NONE;
    }

    private static boolean isWithin(int value, int least, int most) {
        return value >= least && value <= most;
    }

    /** A state: all that undo() and restore() bring back. */
    private static final class Leg {
        final int[] numbers = FIRST.clone();
        final Belt belt = new Belt();
        final Grain grain = new Grain();
        final Trips trips = new Trips();
        final int[] tooLong = new int[SENSORS];
        final int[] tripsOf = new int[SENSORS];
        boolean runs;
        boolean gateOpen;
        int slip;
        int cells;
        int warmth;
        int reason = NONE;
        int ticks;

        void become(Leg other) {
            System.arraycopy(other.numbers, 0, numbers, 0, NUMBERS);
            belt.become(other.belt);
            grain.become(other.grain);
            trips.become(other.trips);
            System.arraycopy(other.tooLong, 0, tooLong, 0, SENSORS);
            System.arraycopy(other.tripsOf, 0, tripsOf, 0, SENSORS);
            runs = other.runs;
            gateOpen = other.gateOpen;
            slip = other.slip;
            cells = other.cells;
            warmth = other.warmth;
            reason = other.reason;
            ticks = other.ticks;
        }

        int setNumber(int which, int value) {
            if (!isWithin(which, 0, NUMBERS - 1)) {
                return UNKNOWN;
            }
            if (!isWithin(value, LEAST[which], MOST[which])) {
                return BAD_VALUE;
            }
            int previous = numbers[which];
            if (previous == value) {
                return NONE;
            }
            numbers[which] = value;
            return previous;
        }

        int moveGate(boolean open) {
            if (open && reason != NONE) {
                return NOT_POSSIBLE;
            }
            if (gateOpen == open) {
                return NONE;
            }
            gateOpen = open;
            return grain.boot;
        }

        int switchOn() {
            if (reason != NONE) {
                return NOT_POSSIBLE;
            }
            if (runs) {
                return NONE;
            }
            runs = true;
            return load();
        }

        int switchOff() {
            if (!runs) {
                return NONE;
            }
            runs = false;
            return belt.onAll();
        }

        int forgetReason() {
            if (reason == NONE) {
                return NONE;
            }
            if (!mayBeReset()) {
                return NOT_POSSIBLE;
            }
            int sensor = reason;
            reason = NONE;
            return sensor;
        }

        private boolean mayBeReset() {
            switch (reason) {
                case SLIP: return load() <= numbers[TENSION];
                case BOOT: return grain.boot < BOOT_FOR_RESET;
                default: return warmth < WARMTH_FOR_RESET;
            }
        }

        int takeByHand(int measures) {
            if (!isWithin(measures, 1, BOOT_ROOM)) {
                return BAD_VALUE;
            }
            if (runs || measures > grain.boot) {
                return NOT_POSSIBLE;
            }
            grain.boot -= measures;
            grain.takenByHand += measures;
            return grain.boot;
        }

        int passTicks(int passing) {
            if (!isWithin(passing, 1, MOST_TICKS_OF_RUN)) {
                return BAD_VALUE;
            }
            if (ticks + passing > MOST_TICKS) {
                return FULL;
            }
            int givenBefore = grain.given;
            for (int i = 0; i < passing; i++) {
                tick();
            }
            return grain.given - givenBefore;
        }

        /** Lets ticks pass in a leg that runs, until it trips, or so many have passed. */
        int ticksUntilTrip(int most) {
            for (int passed = 1; passed <= most; passed++) {
                tick();
                if (!runs) {
                    return passed;
                }
            }
            return NONE;
        }

        int load() {
            return belt.onTheWayUp() + Math.max(0, grain.boot - BOOT_WITHOUT_LOAD) / 2;
        }

        int seenBy(int sensor) {
            switch (sensor) {
                case SLIP: return slip;
                case BOOT: return grain.boot;
                default: return warmth;
            }
        }

        private void tick() {
            ticks++;
            if (gateOpen) {
                grain.feedIn(numbers[FEED]);
            }
            slip = runs ? slipOf(load()) : 0;
            cells = runs ? numbers[DRIVE] * (100 - slip) / 100 : 0;
            for (int i = 0; i < cells; i++) {
                moveOneCell();
            }
            rub();
            watch();
        }

        private int slipOf(int load) {
            int beyond = Math.max(0, load - numbers[TENSION]);
            return Math.min(MOST_SLIP, 2 * beyond);
        }

        private void moveOneCell() {
            belt.moveOn();
            int lifted = belt.emptyAtHead();
            int falling = cells >= CELLS_THAT_THROW_ALL ? 0 : lifted / 2;
            grain.given += lifted - falling;
            grain.fallBack(falling);
            grain.boot -= belt.fillInBoot(grain.boot, numbers[CAPACITY]);
        }

        private void rub() {
            int steps = Math.max(0, Math.abs(numbers[ALIGNMENT]) - STEPS_ASIDE_WITHOUT_RUBBING);
            warmth = Math.max(0, warmth + cells * steps - COOLING);
        }

        private void watch() {
            for (int sensor = 0; sensor < SENSORS; sensor++) {
                tooLong[sensor] = seenBy(sensor) >= TOO_MUCH[sensor] ? tooLong[sensor] + 1 : 0;
                if (runs && tooLong[sensor] >= WAITS[sensor]) {
                    tripsOf[sensor]++;
                    tripBy(sensor);
                }
            }
        }

        private void tripBy(int sensor) {
            runs = false;
            gateOpen = false;
            reason = sensor;
            trips.note(ticks, sensor, load());
        }
    }

    /** The buckets. They stay in their row; which of them is in the boot goes round instead. */
    private static final class Belt {
        private final int[] row = new int[PLACES];
        private int inBoot;

        void become(Belt other) {
            System.arraycopy(other.row, 0, row, 0, PLACES);
            inBoot = other.inBoot;
        }

        int at(int place) {
            return isWithin(place, 0, PLACES - 1) ? row[(inBoot + place) % PLACES] : UNKNOWN;
        }

        void moveOn() {
            inBoot = (inBoot + PLACES - 1) % PLACES;
        }

        int emptyAtHead() {
            int index = (inBoot + HEAD) % PLACES;
            int lifted = row[index];
            row[index] = 0;
            return lifted;
        }

        /** Answers how much the bucket takes: nothing if it has more than the capacity. */
        int fillInBoot(int offered, int capacity) {
            int taken = Math.min(offered, Math.max(0, capacity - row[inBoot]));
            row[inBoot] += taken;
            return taken;
        }

        int onTheWayUp() {
            int sum = 0;
            for (int place = 1; place <= HEAD; place++) {
                sum += row[(inBoot + place) % PLACES];
            }
            return sum;
        }

        int onAll() {
            int sum = 0;
            for (int i = 0; i < PLACES; i++) {
                sum += row[i];
            }
            return sum;
        }
    }

    /** The boot, and where all the grain went that is no longer in the leg. */
    private static final class Grain {
        int boot;
        int given;
        int spilt;
        int fed;
        int takenByHand;
        int fallenBack;

        void become(Grain other) {
            boot = other.boot;
            given = other.given;
            spilt = other.spilt;
            fed = other.fed;
            takenByHand = other.takenByHand;
            fallenBack = other.fallenBack;
        }

        void feedIn(int measures) {
            fed += measures;
            pourIntoBoot(measures);
        }

        void fallBack(int measures) {
            fallenBack += measures;
            pourIntoBoot(measures);
        }

        private void pourIntoBoot(int measures) {
            int fitting = Math.min(measures, BOOT_ROOM - boot);
            boot += fitting;
            spilt += measures - fitting;
        }
    }

    /** The latest trips, the latest one first. */
    private static final class Trips {
        private final int[] ticks = new int[TRIPS_KEPT];
        private final int[] sensors = new int[TRIPS_KEPT];
        private final int[] loads = new int[TRIPS_KEPT];
        private int size;

        void become(Trips other) {
            System.arraycopy(other.ticks, 0, ticks, 0, TRIPS_KEPT);
            System.arraycopy(other.sensors, 0, sensors, 0, TRIPS_KEPT);
            System.arraycopy(other.loads, 0, loads, 0, TRIPS_KEPT);
            size = other.size;
        }

        void note(int tick, int sensor, int load) {
            for (int i = TRIPS_KEPT - 1; i > 0; i--) {
                ticks[i] = ticks[i - 1];
                sensors[i] = sensors[i - 1];
                loads[i] = loads[i - 1];
            }
            ticks[0] = tick;
            sensors[0] = sensor;
            loads[0] = load;
            size = Math.min(TRIPS_KEPT, size + 1);
        }

        int tickOf(int back) {
            return told(ticks, back);
        }

        int sensorOf(int back) {
            return told(sensors, back);
        }

        int loadOf(int back) {
            return told(loads, back);
        }

        private int told(int[] row, int back) {
            return isWithin(back, 0, size - 1) ? row[back] : NONE;
        }
    }

    /** The latest states, in a ring, so that the oldest one makes room for one more. */
    private static final class History {
        private final Leg[] states = new Leg[STATES_KEPT];
        private int oldest;
        int size;

        History() {
            for (int i = 0; i < STATES_KEPT; i++) {
                states[i] = new Leg();
            }
        }

        private int indexOf(int age) {
            return Math.floorMod(oldest + age, STATES_KEPT);
        }

        void remember(Leg state) {
            Leg room = states[indexOf(size)];
            if (room == null) {
                return;
            }
            room.become(state);
            if (size < STATES_KEPT) {
                size++;
            } else {
                oldest = indexOf(1);
            }
        }

        /** Lets the leg become the latest state, which is removed; answers whether there was one. */
        boolean takeBack(Leg leg) {
            Leg latest = states[indexOf(size - 1)];
            if (size == 0 || latest == null) {
                return false;
            }
            leg.become(latest);
            size--;
            return true;
        }
    }

    /** The text, and the commands that were read from it. */
    private static final class Text {
        private static final int END = -1;
        private final char[] characters = new char[TEXT_ROOM];
        int length;
        private final char[] letters = new char[TEXT_ROOM];
        private final int[] values = new int[TEXT_ROOM];
        int commands;
        private int reading;

        int append(char character) {
            if (!isWithin(length, 0, TEXT_ROOM - 1)) {
                return FULL;
            }
            characters[length] = character;
            length++;
            return length;
        }

        int empty() {
            int had = length;
            length = 0;
            return had;
        }

        char letterOf(int command) {
            return isWithin(command, 0, commands - 1) ? letters[command] : 0;
        }

        int valueOf(int command) {
            return isWithin(command, 0, commands - 1) ? values[command] : 0;
        }

        /** Reads the commands; answers WELL, or the fault of the text. */
        int read() {
            reading = 0;
            commands = 0;
            boolean well = readCommand();
            for (int i = 0; i < TEXT_ROOM && well && reading < length; i++) {
                well = readComma() && readCommand();
            }
            return well ? WELL : reading;
        }

        private int next() {
            return isWithin(reading, 0, Math.min(length, TEXT_ROOM) - 1) ? characters[reading] : END;
        }

        private int nextDigit() {
            int next = next();
            return isWithin(next, '0', '9') ? next - '0' : END;
        }

        // Each reader stays at the first character that is not allowed, and answers whether all were.

        private boolean readComma() {
            if (next() != ',') {
                return false;
            }
            reading++;
            return true;
        }

        private boolean readCommand() {
            if (!isWithin(commands, 0, TEXT_ROOM - 1)) {
                return false;
            }
            int letter = next();
            if (!isLetterOfCommand(letter)) {
                return false;
            }
            reading++;
            letters[commands] = (char) letter;
            values[commands] = 0;
            boolean well = readValue(letter);
            commands++;
            return well;
        }

        private static boolean isLetterOfCommand(int letter) {
            switch (letter) {
                case 'd': case 't': case 'f': case 'c': case 'a': case 'g':
                case 's': case 'o': case 'x': case 'r': case 'w':
                    return true;
                default:
                    return false;
            }
        }

        private boolean readValue(int letter) {
            switch (letter) {
                case 'd': return readNumber(LEAST[DRIVE], MOST[DRIVE]);
                case 't': return readNumber(LEAST[TENSION], MOST[TENSION]);
                case 'f': return readNumber(LEAST[FEED], MOST[FEED]);
                case 'c': return readNumber(LEAST[CAPACITY], MOST[CAPACITY]);
                case 'a': return readAlignment();
                case 'w': return readNumber(1, MOST_TICKS_OF_COMMAND);
                default: return true;
            }
        }

        private boolean readNumber(int least, int most) {
            int digit = nextDigit();
            if (digit == END || !isWithin(digit, least, most)) {
                return false;
            }
            reading++;
            int number = digit;
            // Behind a single 0 no digit may stand: it is left to be refused in the comma's place.
            for (int i = 0; i < TEXT_ROOM && number != 0 && nextDigit() != END; i++) {
                number = number * 10 + nextDigit();
                if (number > most) {
                    return false;
                }
                reading++;
            }
            values[commands] = number;
            return true;
        }

        private boolean readAlignment() {
            boolean minus = next() == '-';
            if (minus) {
                reading++;
            }
            int digit = nextDigit();
            if (digit == END || minus && digit == 0) {
                return false;
            }
            reading++;
            values[commands] = minus ? -digit : digit;
            return true;
        }
    }
}
