/**
 * Four legs of a bridge with a load between each two of them, driven slot by slot.
 * The calls are promised in DOC.md; a call that returns an error changes nothing.
 */
public final class BridgeLegs {
    public static final int INVALID_ARGUMENT = -2000000001;
    public static final int NOT_POSSIBLE = -2000000002;
    public static final int LIMIT_REACHED = -2000000003;
    public static final int NOT_FOUND = -2000000004;

    private static final int LEGS = 4;
    private static final int LOADS = 2;
    private static final int FAULTS = 3;
    private static final int LAST_SLOT = 100000;
    private static final int SLOTS_AT_ONCE = 1000;
    private static final int MOST_CURRENT = 1000000;
    private static final int MOST_HEAT = 2000000000;
    private static final int SCOPE_SLOTS = 32;
    private static final int HISTORY_STATES = 4;
    private static final int TEXT_LENGTH = 80;

    /** Commands, wishes and states of a leg. */
    private static final int OFF = 0;
    private static final int HIGH = 1;
    private static final int LOW = 2;

    /** Stands where a drive would, if a leg is off; a real drive is -1, 0 or 1. */
    private static final int NO_DRIVE = 2;

    private static final int OVER_CURRENT = 0;
    private static final int OPEN = 1;
    private static final int HOT = 2;

    /** The dials of the bridge, by their numbers in set. */
    private static final int DEAD_SLOTS = 0;
    private static final int BLANKING_SLOTS = 1;
    private static final int TRIP = 2;
    private static final int OPEN_SLOTS = 3;
    private static final int HOT_LIMIT = 4;
    private static final int COOLING = 5;
    private static final int BRIDGE_DIALS = 6;

    /** The dials of a load, by their numbers in setLoad. */
    private static final int STEP = 0;
    private static final int DROOP = 1;
    private static final int LEVEL = 2;
    private static final int HYSTERESIS = 3;
    private static final int LOAD_DIALS = 4;

    /** For all dials: those of the bridge, and behind them those of a load. */
    private static final int[] DIAL_LOWEST = {0, 0, 1, 2, 1, 0, 1, 0, 1, 0};
    private static final int[] DIAL_HIGHEST =
        {20, 50, 1000000, 100, 1000000000, 1000000, 1000, 100, 900000, 900000};
    private static final int[] DIAL_INITIAL = {2, 3, 5000, 20, 1000000, 100, 50, 10, 1000, 100};

    /** What the text answers instead of the place of a fault, if it has none. */
    private static final int NO_FAULT = -1;

    private final Bridge bridge;
    /** A bridge on which until and ifGo try what would come. */
    private final Bridge trial;
    private final History history;
    private final Text text;

    public BridgeLegs() {
        bridge = new Bridge();
        trial = new Bridge();
        history = new History();
        text = new Text();
    }

    // ---- settings and commands

    public int set(int what, int value) {
        if (!bridge.dials.takes(what, value)) {
            return INVALID_ARGUMENT;
        }
        history.record(bridge);
        return bridge.dials.turn(what, value);
    }

    public int setLoad(int load, int what, int value) {
        if (!isLoad(load) || !bridge.loadAt(load).dials.takes(what, value)) {
            return INVALID_ARGUMENT;
        }
        history.record(bridge);
        return bridge.loadAt(load).dials.turn(what, value);
    }

    public int command(int leg, int command) {
        if (!isLeg(leg) || !isWithin(command, OFF, LOW)) {
            return INVALID_ARGUMENT;
        }
        history.record(bridge);
        Leg commanded = bridge.legAt(leg);
        int previous = commanded.command;
        commanded.command = command;
        return previous;
    }

    public int chop(int load, int on) {
        if (!isLoad(load) || !isWithin(on, 0, 1)) {
            return INVALID_ARGUMENT;
        }
        history.record(bridge);
        return bit(bridge.loadAt(load).turnChopper(on == 1));
    }

    public int go(int slots) {
        if (!isWithin(slots, 1, SLOTS_AT_ONCE)) {
            return INVALID_ARGUMENT;
        }
        if (slots > LAST_SLOT - bridge.slot) {
            return LIMIT_REACHED;
        }
        history.record(bridge);
        return bridge.pass(slots);
    }

    public int clear(int load, int fault) {
        if (!isLoad(load) || !isFault(fault)) {
            return INVALID_ARGUMENT;
        }
        Load cleared = bridge.loadAt(load);
        if (!cleared.isClearable(fault, bridge.dials)) {
            return NOT_POSSIBLE;
        }
        history.record(bridge);
        cleared.latches.release(fault);
        return cleared.latches.number;
    }

    public int undo() {
        if (history.kept == 0) {
            return NOT_POSSIBLE;
        }
        history.restore(bridge);
        return history.kept;
    }

    // ---- looking

    public long count(int what) {
        if (isWithin(what, 10, 10 + BRIDGE_DIALS - 1)) {
            return bridge.dials.value(what - 10);
        }
        switch (what) {
            case 0: return bridge.slot;
            case 1: return bridge.load0.latches.number + bridge.load1.latches.number;
            case 2: return bridge.slotsInScope();
            case 3: return bridge.load0.switchings() + bridge.load1.switchings();
            case 4: return bridge.load0.heldSlots + bridge.load1.heldSlots;
            case 5: return history.kept;
            case 6: return text.length;
            case 20: return bridge.load0.sizes + bridge.load1.sizes;
            default: return INVALID_ARGUMENT;
        }
    }

    public int leg(int leg, int what) {
        if (!isLeg(leg)) {
            return INVALID_ARGUMENT;
        }
        Leg seen = bridge.legAt(leg);
        switch (what) {
            case 0: return seen.command;
            case 1: return seen.state;
            case 2: return bridge.wishOf(leg);
            case 3: return seen.offRun;
            case 4: return seen.switchings;
            case 5: return seen.highSlots;
            case 6: return seen.lowSlots;
            case 7: return seen.offSlots;
            default: return INVALID_ARGUMENT;
        }
    }

    public int load(int load, int what) {
        if (!isLoad(load)) {
            return INVALID_ARGUMENT;
        }
        Load seen = bridge.loadAt(load);
        if (isWithin(what, 0, LOAD_DIALS - 1)) {
            return seen.dials.value(what);
        }
        switch (what) {
            case 4: return seen.current;
            case 5: return seen.heat;
            case 6: return bit(seen.chopping);
            case 7: return bit(seen.held);
            case 8: return seen.blanked;
            case 9: return seen.drive == NO_DRIVE ? NOT_FOUND : seen.drive;
            case 10: return seen.latches.number;
            case 11: return seen.drivenRun;
            default: return INVALID_ARGUMENT;
        }
    }

    public int fault(int load, int fault, int what) {
        if (!isLoad(load) || !isFault(fault) || !isWithin(what, 0, 4)) {
            return INVALID_ARGUMENT;
        }
        Load seen = bridge.loadAt(load);
        boolean latched = seen.latches.isLatched(fault);
        if (what == 0) {
            return bit(latched);
        }
        if (what == 4) {
            return bit(seen.isClearable(fault, bridge.dials));
        }
        if (!latched) {
            return NOT_FOUND;
        }
        switch (what) {
            case 1: return seen.latches.slotOf(fault);
            case 2: return seen.latches.currentOf(fault);
            default: return seen.latches.placeOf(fault);
        }
    }

    public int scope(int back, int what) {
        if (back < 0 || !isWithin(what, 0, 4)) {
            return INVALID_ARGUMENT;
        }
        if (back >= bridge.slotsInScope()) {
            return NOT_FOUND;
        }
        int slot = bridge.slot - 1 - back;
        return what == 0 ? slot : bridge.scope.value(slot, what);
    }

    public int until(int load, int amount) {
        if (!isLoad(load) || !isWithin(amount, 1, MOST_CURRENT)) {
            return INVALID_ARGUMENT;
        }
        trial.copyFrom(bridge);
        Load tried = trial.loadAt(load);
        for (int slots = 0; slots <= SLOTS_AT_ONCE; slots++) {
            if (tried.size() >= amount) {
                return slots;
            }
            trial.pass(1);
        }
        return NOT_FOUND;
    }

    public int ifGo(int load, int slots) {
        if (!isLoad(load) || !isWithin(slots, 1, SLOTS_AT_ONCE)) {
            return INVALID_ARGUMENT;
        }
        trial.copyFrom(bridge);
        trial.pass(slots);
        return trial.loadAt(load).current;
    }

    // ---- texts

    public int type(int character) {
        if (!isWithin(character, 32, 126)) {
            return INVALID_ARGUMENT;
        }
        if (text.length >= TEXT_LENGTH) {
            return LIMIT_REACHED;
        }
        text.append((char) character);
        return text.length;
    }

    public int clearText() {
        int previous = text.length;
        text.length = 0;
        return previous;
    }

    public int wrong() {
        int place = text.faultPlace();
        return place == NO_FAULT ? NOT_FOUND : place;
    }

    public int play() {
        if (text.faultPlace() != NO_FAULT) {
            return NOT_POSSIBLE;
        }
        int slots = text.slots();
        if (slots > LAST_SLOT - bridge.slot) {
            return LIMIT_REACHED;
        }
        history.record(bridge);
        int leg = 0;
        for (int place = 0; place < text.length; place++) {
            char sign = text.signAt(place);
            if (sign == ';') {
                bridge.pass(text.slotsBefore(place));
                leg = 0;
            } else if (leg < LEGS) {
                bridge.legAt(leg).obey(sign);
                leg++;
            }
        }
        return slots;
    }

    public int playing() {
        return text.faultPlace() == NO_FAULT ? text.slots() : NOT_POSSIBLE;
    }

    private static boolean isLeg(int leg) {
        return isWithin(leg, 0, LEGS - 1);
    }

    private static boolean isLoad(int load) {
        return isWithin(load, 0, LOADS - 1);
    }

    private static boolean isFault(int fault) {
        return isWithin(fault, 0, FAULTS - 1);
    }

    private static boolean isWithin(int value, int lowest, int highest) {
        return value >= lowest && value <= highest;
    }

    private static int bit(boolean yes) {
        return yes ? 1 : 0;
    }

    /** Values that are set within ranges: a stretch of the tables of all dials. */
    private static final class Dials {
        private final int first;
        private final int[] values;

        Dials(int first, int number) {
            this.first = first;
            values = new int[number];
            System.arraycopy(DIAL_INITIAL, first, values, 0, number);
        }

        void copyFrom(Dials other) {
            System.arraycopy(other.values, 0, values, 0, values.length);
        }

        private boolean has(int what) {
            return what >= 0 && what < values.length;
        }

        boolean takes(int what, int value) {
            return has(what) && isWithin(value, DIAL_LOWEST[first + what], DIAL_HIGHEST[first + what]);
        }

        int value(int what) {
            return has(what) ? values[what] : 0;
        }

        /** Gives the dial a value and returns the previous one. */
        int turn(int what, int value) {
            int previous = value(what);
            if (has(what)) {
                values[what] = value;
            }
            return previous;
        }
    }

    private static final class Leg {
        private int command;
        private int state;
        /** Slots, one behind the other up to the latest, in which it was off. */
        private int offRun;
        private int switchings;
        private int highSlots;
        private int lowSlots;
        private int offSlots;

        void copyFrom(Leg other) {
            command = other.command;
            state = other.state;
            offRun = other.offRun;
            switchings = other.switchings;
            highSlots = other.highSlots;
            lowSlots = other.lowSlots;
            offSlots = other.offSlots;
        }

        /** Takes the command that a letter of a pattern gives; "=" gives none. */
        void obey(char letter) {
            if (letter == 'o') {
                command = OFF;
            } else if (letter == 'h') {
                command = HIGH;
            } else if (letter == 'l') {
                command = LOW;
            }
        }

        /** Lets a slot go by and tells whether the state became another one. */
        boolean pass(int wish, int deadSlots) {
            int next = stateFor(wish, deadSlots);
            boolean switched = next != state;
            state = next;
            if (switched) {
                switchings++;
            }
            countSlot();
            return switched;
        }

        private int stateFor(int wish, int deadSlots) {
            boolean neverOn = highSlots == 0 && lowSlots == 0;
            if (wish == state || neverOn || offRun >= deadSlots) {
                return wish;
            }
            return OFF;
        }

        private void countSlot() {
            if (state == OFF) {
                offRun++;
                offSlots++;
                return;
            }
            offRun = 0;
            if (state == HIGH) {
                highSlots++;
            } else {
                lowSlots++;
            }
        }
    }

    /** The latched faults of a load. */
    private static final class Latches {
        private final boolean[] latched;
        private final int[] slots;
        private final int[] currents;
        private int number;

        Latches() {
            latched = new boolean[FAULTS];
            slots = new int[FAULTS];
            currents = new int[FAULTS];
        }

        void copyFrom(Latches other) {
            for (int fault = 0; fault < FAULTS; fault++) {
                latched[fault] = other.latched[fault];
                slots[fault] = other.slots[fault];
                currents[fault] = other.currents[fault];
            }
            number = other.number;
        }

        boolean isLatched(int fault) {
            return isFault(fault) && latched[fault];
        }

        int slotOf(int fault) {
            return isFault(fault) ? slots[fault] : 0;
        }

        int currentOf(int fault) {
            return isFault(fault) ? currents[fault] : 0;
        }

        /** How many of the latched faults are to be cleared before this one. */
        int placeOf(int fault) {
            int slot = slotOf(fault);
            int place = 0;
            for (int other = 0; other < FAULTS; other++) {
                boolean before = slots[other] < slot || (slots[other] == slot && other < fault);
                if (latched[other] && before) {
                    place++;
                }
            }
            return place;
        }

        void latch(int fault, int slot, int current) {
            if (isFault(fault) && !latched[fault]) {
                latched[fault] = true;
                slots[fault] = slot;
                currents[fault] = current;
                number++;
            }
        }

        void release(int fault) {
            if (isLatched(fault)) {
                latched[fault] = false;
                number--;
            }
        }
    }

    /** A load with the two legs that it lies between, its chopper and its faults. */
    private static final class Load {
        private final Leg first;
        private final Leg second;
        private final Dials dials;
        private final Latches latches;
        private int current;
        private int heat;
        private boolean chopping;
        private boolean held;
        /** Slots for which the eye is blanked, from the next one on. */
        private int blanked;
        private int drive;
        /** Slots, one behind the other up to the latest, with a drive of 1 or -1. */
        private int drivenRun;
        private int heldSlots;
        /** The sum of the sizes of the current at the ends of all slots. */
        private long sizes;

        Load() {
            first = new Leg();
            second = new Leg();
            dials = new Dials(BRIDGE_DIALS, LOAD_DIALS);
            latches = new Latches();
            drive = NO_DRIVE;
        }

        void copyFrom(Load other) {
            first.copyFrom(other.first);
            second.copyFrom(other.second);
            dials.copyFrom(other.dials);
            latches.copyFrom(other.latches);
            current = other.current;
            heat = other.heat;
            chopping = other.chopping;
            held = other.held;
            blanked = other.blanked;
            drive = other.drive;
            drivenRun = other.drivenRun;
            heldSlots = other.heldSlots;
            sizes = other.sizes;
        }

        int size() {
            return Math.abs(current);
        }

        int switchings() {
            return first.switchings + second.switchings;
        }

        /** Turns the chopper and tells whether it was on. */
        boolean turnChopper(boolean on) {
            boolean previous = chopping;
            chopping = on;
            // One that was on already goes on holding.
            held = held && on;
            return previous;
        }

        int firstWish() {
            if (latches.number > 0) {
                return OFF;
            }
            return held ? second.command : first.command;
        }

        int secondWish() {
            return latches.number > 0 ? OFF : second.command;
        }

        boolean isClearable(int fault, Dials settings) {
            return latches.isLatched(fault) && latches.placeOf(fault) == 0
                && isCauseGone(fault, settings);
        }

        private boolean isCauseGone(int fault, Dials settings) {
            switch (fault) {
                case OVER_CURRENT: return size() < settings.value(TRIP);
                case HOT: return heat <= settings.value(HOT_LIMIT) / 2;
                default: return true;
            }
        }

        /** Lets a slot go by and returns how many faults were latched. */
        int pass(int slot, Dials settings) {
            if (held) {
                heldSlots++;
            }
            passLegs(settings);
            passCurrent();
            passHeat(settings.value(COOLING));
            look();
            int latched = seeFaults(slot, settings);
            if (blanked > 0) {
                blanked--;
            }
            return latched;
        }

        private void passLegs(Dials settings) {
            int deadSlots = settings.value(DEAD_SLOTS);
            int firstWish = firstWish();
            int secondWish = secondWish();
            boolean firstSwitched = first.pass(firstWish, deadSlots);
            boolean secondSwitched = second.pass(secondWish, deadSlots);
            if (firstSwitched || secondSwitched) {
                blanked = settings.value(BLANKING_SLOTS);
            }
            drive = driveOfStates();
            drivenRun = drive == 1 || drive == -1 ? drivenRun + 1 : 0;
        }

        private int driveOfStates() {
            if (first.state == OFF || second.state == OFF) {
                return NO_DRIVE;
            }
            if (first.state == second.state) {
                return 0;
            }
            return first.state == HIGH ? 1 : -1;
        }

        private void passCurrent() {
            int step = dials.value(STEP);
            int droop = dials.value(DROOP);
            if (drive == NO_DRIVE) {
                current = towardZero(current, step + droop);
            } else {
                current = towardZero(current + step * drive, droop);
            }
            current = Math.max(-MOST_CURRENT, Math.min(MOST_CURRENT, current));
            sizes += size();
        }

        private static int towardZero(int current, int amount) {
            if (current > 0) {
                return Math.max(0, current - amount);
            }
            return Math.min(0, current + amount);
        }

        private void passHeat(int cooling) {
            long size = size();
            long warmer = heat + size * size / 1000 - cooling;
            heat = (int) Math.max(0, Math.min(MOST_HEAT, warmer));
        }

        /** The eye of the chopper looks at the current. */
        private void look() {
            if (!chopping || blanked > 0) {
                return;
            }
            int level = dials.value(LEVEL);
            if (size() >= level) {
                held = true;
            } else if (size() <= level - dials.value(HYSTERESIS)) {
                held = false;
            }
        }

        private int seeFaults(int slot, Dials settings) {
            int latched = 0;
            for (int fault = 0; fault < FAULTS; fault++) {
                if (isSeen(fault, settings) && !latches.isLatched(fault)) {
                    latches.latch(fault, slot, current);
                    latched++;
                }
            }
            return latched;
        }

        private boolean isSeen(int fault, Dials settings) {
            switch (fault) {
                case OVER_CURRENT: return blanked == 0 && size() >= settings.value(TRIP);
                case OPEN: return drivenRun >= settings.value(OPEN_SLOTS) && size() < dials.value(STEP);
                default: return heat >= settings.value(HOT_LIMIT);
            }
        }
    }

    /** What the latest slots left, each slot at its number modulo the scope's length. */
    private static final class Scope {
        private final int[] currents0;
        private final int[] currents1;
        private final int[] states;
        private final int[] holds;

        Scope() {
            currents0 = new int[SCOPE_SLOTS];
            currents1 = new int[SCOPE_SLOTS];
            states = new int[SCOPE_SLOTS];
            holds = new int[SCOPE_SLOTS];
        }

        void copyFrom(Scope other) {
            System.arraycopy(other.currents0, 0, currents0, 0, SCOPE_SLOTS);
            System.arraycopy(other.currents1, 0, currents1, 0, SCOPE_SLOTS);
            System.arraycopy(other.states, 0, states, 0, SCOPE_SLOTS);
            System.arraycopy(other.holds, 0, holds, 0, SCOPE_SLOTS);
        }

        void keep(int slot, Load load0, Load load1) {
            int place = Math.floorMod(slot, SCOPE_SLOTS);
            currents0[place] = load0.current;
            currents1[place] = load1.current;
            states[place] = load0.first.state + 3 * load0.second.state
                + 9 * load1.first.state + 27 * load1.second.state;
            holds[place] = bit(load0.held) + 2 * bit(load1.held);
        }

        int value(int slot, int what) {
            int place = Math.floorMod(slot, SCOPE_SLOTS);
            switch (what) {
                case 1: return currents0[place];
                case 2: return currents1[place];
                case 3: return states[place];
                default: return holds[place];
            }
        }
    }

    /** Everything that a change can change: what the history keeps. */
    private static final class Bridge {
        private final Load load0;
        private final Load load1;
        private final Dials dials;
        private final Scope scope;
        /** How many slots have gone by, which is the number of the next one. */
        private int slot;

        Bridge() {
            load0 = new Load();
            load1 = new Load();
            dials = new Dials(0, BRIDGE_DIALS);
            scope = new Scope();
        }

        void copyFrom(Bridge other) {
            load0.copyFrom(other.load0);
            load1.copyFrom(other.load1);
            dials.copyFrom(other.dials);
            scope.copyFrom(other.scope);
            slot = other.slot;
        }

        Load loadAt(int number) {
            return number == 0 ? load0 : load1;
        }

        Leg legAt(int number) {
            Load between = loadAt(number / 2);
            return number % 2 == 0 ? between.first : between.second;
        }

        int wishOf(int number) {
            Load between = loadAt(number / 2);
            return number % 2 == 0 ? between.firstWish() : between.secondWish();
        }

        int slotsInScope() {
            return Math.min(slot, SCOPE_SLOTS);
        }

        /** Lets slots go by and returns how many faults were latched. */
        int pass(int slots) {
            int latched = 0;
            for (int passed = 0; passed < slots; passed++) {
                // The loads share nothing, so each may go through its whole slot by itself.
                latched += load0.pass(slot, dials);
                latched += load1.pass(slot, dials);
                scope.keep(slot, load0, load1);
                slot++;
            }
            return latched;
        }
    }

    /** The latest states before changes, in a ring, so that none is made after the constructor. */
    private static final class History {
        private final Bridge[] states;
        private int oldest;
        private int kept;

        History() {
            states = new Bridge[HISTORY_STATES];
            for (int place = 0; place < HISTORY_STATES; place++) {
                states[place] = new Bridge();
            }
        }

        void record(Bridge bridge) {
            if (kept == HISTORY_STATES) {
                oldest = (oldest + 1) % HISTORY_STATES;
                kept--;
            }
            states[(oldest + kept) % HISTORY_STATES].copyFrom(bridge);
            kept++;
        }

        /** Gives the bridge the latest state, if there is one, and drops that state. */
        void restore(Bridge bridge) {
            if (kept > 0) {
                kept--;
                bridge.copyFrom(states[(oldest + kept) % HISTORY_STATES]);
            }
        }
    }

    /** The text of a pattern: parts of four letters, perhaps "*" and a number, and ";". */
    private static final class Text {
        /** What may come next: a letter for the leg of this number, or one of these. */
        private static final int STAR_OR_END = 4;
        private static final int FIRST_DIGIT = 5;
        private static final int END_ALONE = 8;
        private static final int NOTHING = -1;
        private static final int MOST_SLOTS = 500;

        private final char[] signs;
        private int length;

        Text() {
            signs = new char[TEXT_LENGTH];
        }

        void append(char sign) {
            if (length < TEXT_LENGTH) {
                signs[length] = sign;
                length++;
            }
        }

        char signAt(int place) {
            return isWithin(place, 0, length - 1) ? signs[place] : ';';
        }

        int faultPlace() {
            int expected = 0;
            for (int place = 0; place < length; place++) {
                char sign = signAt(place);
                boolean endsNumber = sign == ';' && expected > FIRST_DIGIT;
                if (endsNumber && !isWithin(slotsBefore(place), 1, MOST_SLOTS)) {
                    return place - (expected - FIRST_DIGIT);
                }
                expected = expectedBehind(expected, sign);
                if (expected == NOTHING) {
                    return place;
                }
            }
            return expected == 0 ? NO_FAULT : length;
        }

        /** What may come behind a sign, or NOTHING if the sign itself cannot stand. */
        private static int expectedBehind(int expected, char sign) {
            if (expected < STAR_OR_END) {
                return isLetter(sign) ? expected + 1 : NOTHING;
            }
            if (sign == ';') {
                return expected == FIRST_DIGIT ? NOTHING : 0;
            }
            if (expected == STAR_OR_END) {
                return sign == '*' ? FIRST_DIGIT : NOTHING;
            }
            return isDigit(sign) && expected < END_ALONE ? expected + 1 : NOTHING;
        }

        private static boolean isLetter(char sign) {
            return sign == 'o' || sign == 'h' || sign == 'l' || sign == '=';
        }

        private static boolean isDigit(char sign) {
            return sign >= '0' && sign <= '9';
        }

        /** The slots of the part that the ";" at this place ends: its number, or 1 without one. */
        int slotsBefore(int end) {
            int slots = 0;
            int weight = 1;
            for (int place = end - 1; place >= 0 && isDigit(signAt(place)); place--) {
                slots += weight * (signAt(place) - '0');
                weight *= 10;
            }
            return weight == 1 ? 1 : slots;
        }

        /** The slots of all parts of a text that has no fault. */
        int slots() {
            int slots = 0;
            for (int place = 0; place < length; place++) {
                if (signAt(place) == ';') {
                    slots += slotsBefore(place);
                }
            }
            return slots;
        }
    }
}
