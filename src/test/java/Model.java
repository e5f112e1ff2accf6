import java.util.ArrayDeque;
import java.util.ArrayList;
import java.util.Deque;
import java.util.List;
import java.util.regex.Matcher;
import java.util.regex.Pattern;

/**
 * The document once more, written for plainness and not for speed: it keeps a log of every slot
 * and derives from the log what BridgeLegs counts as it goes.
 */
final class Model {
    /** What a slot left behind. */
    record Slot(int[] states, int[] currents, int[] heats, boolean[] heldBefore, boolean[] heldBehind, int blanking) {
    }

    record Latched(int load, int fault, int slot, int current) {
    }

    private static final int[][] RANGES = {{0, 20}, {0, 50}, {1, 1000000}, {2, 100}, {1, 1000000000}, {0, 1000000}};
    private static final int[][] LOAD_RANGES = {{1, 1000}, {0, 100}, {1, 900000}, {0, 900000}};

    /** All but the text and the history. */
    private static final class State {
        int[] settings = {2, 3, 5000, 20, 1000000, 100};
        int[][] loads = {{50, 10, 1000, 100}, {50, 10, 1000, 100}};
        int[] commands = new int[4];
        boolean[] chopping = new boolean[2];
        boolean[] held = new boolean[2];
        List<Slot> log = new ArrayList<>();
        List<Latched> latched = new ArrayList<>();

        State copy() {
            State copy = new State();
            copy.settings = settings.clone();
            copy.loads = new int[][] {loads[0].clone(), loads[1].clone()};
            copy.commands = commands.clone();
            copy.chopping = chopping.clone();
            copy.held = held.clone();
            copy.log = new ArrayList<>(log);
            copy.latched = new ArrayList<>(latched);
            return copy;
        }

        int stateOf(int leg, int slot) {
            return slot < 0 ? 0 : log.get(slot).states()[leg];
        }

        int current(int load) {
            return log.isEmpty() ? 0 : log.get(log.size() - 1).currents()[load];
        }

        int heat(int load) {
            return log.isEmpty() ? 0 : log.get(log.size() - 1).heats()[load];
        }

        int slotsSinceOn(int leg) {
            int slots = 0;
            while (slots < log.size() && stateOf(leg, log.size() - 1 - slots) == 0) {
                slots++;
            }
            return slots;
        }

        boolean wasNeverOn(int leg) {
            return slotsSinceOn(leg) == log.size();
        }

        boolean switchedIn(int leg, int slot) {
            return stateOf(leg, slot) != stateOf(leg, slot - 1);
        }

        /** The drive in a slot, or null. */
        Integer drive(int load, int slot) {
            int first = stateOf(2 * load, slot);
            int second = stateOf(2 * load + 1, slot);
            if (first == 0 || second == 0) {
                return null;
            }
            return first == second ? 0 : first == 1 ? 1 : -1;
        }

        int drivenRun(int load) {
            int run = 0;
            for (int slot = log.size() - 1; slot >= 0; slot--) {
                Integer drive = drive(load, slot);
                if (drive == null || drive == 0) {
                    break;
                }
                run++;
            }
            return run;
        }

        /** Slots more, from this slot on, for which the eye is blanked by the switchings before it or in it. */
        int blankedFrom(int load, int from) {
            for (int slot = log.size() - 1; slot >= 0; slot--) {
                if (switchedIn(2 * load, slot) || switchedIn(2 * load + 1, slot)) {
                    return Math.max(0, slot + log.get(slot).blanking() - from);
                }
            }
            return 0;
        }

        int latchedOf(int load) {
            return (int) latched.stream().filter(one -> one.load() == load).count();
        }

        int wish(int leg) {
            int load = leg / 2;
            if (latchedOf(load) > 0) {
                return 0;
            }
            return leg % 2 == 0 && held[load] ? commands[leg + 1] : commands[leg];
        }

        Latched find(int load, int fault) {
            return latched.stream().filter(one -> one.load() == load && one.fault() == fault).findFirst().orElse(null);
        }

        /** The place of a fault; the list is in the order of latching, as slots and then faults go up. */
        int place(Latched wanted) {
            int place = 0;
            for (Latched one : latched) {
                if (one == wanted) {
                    return place;
                }
                if (one.load() == wanted.load()) {
                    place++;
                }
            }
            throw new IllegalStateException("not latched");
        }

        boolean clearable(int load, int fault) {
            Latched one = find(load, fault);
            if (one == null || place(one) != 0) {
                return false;
            }
            return switch (fault) {
                case 0 -> Math.abs(current(load)) < settings[2];
                case 1 -> true;
                default -> heat(load) <= settings[4] / 2;
            };
        }

        int next(int leg) {
            int wish = wish(leg);
            int state = stateOf(leg, log.size() - 1);
            if (wish == 0 || wish == state) {
                return wish;
            }
            return wasNeverOn(leg) || slotsSinceOn(leg) >= settings[0] ? wish : 0;
        }

        int slot() {
            int now = log.size();
            int[] states = {next(0), next(1), next(2), next(3)};
            int[] before = {current(0), current(1)};
            int[] heatsBefore = {heat(0), heat(1)};
            int[] currents = new int[2];
            int[] heats = new int[2];
            log.add(new Slot(states, currents, heats, held.clone(), held, settings[1]));
            for (int load = 0; load < 2; load++) {
                currents[load] = nextCurrent(before[load], drive(load, now), loads[load][0], loads[load][1]);
                long square = (long) currents[load] * currents[load];
                long heat = heatsBefore[load] + square / 1000 - settings[5];
                heats[load] = heat < 0 ? 0 : heat > 2000000000 ? 2000000000 : (int) heat;
            }
            int count = 0;
            for (int load = 0; load < 2; load++) {
                boolean blanked = blankedFrom(load, now) > 0;
                int size = Math.abs(currents[load]);
                if (chopping[load] && !blanked) {
                    if (size >= loads[load][2]) {
                        held[load] = true;
                    } else if (size <= loads[load][2] - loads[load][3]) {
                        held[load] = false;
                    }
                }
                boolean[] seen = {size >= settings[2] && !blanked,
                    drivenRun(load) >= settings[3] && size < loads[load][0], heats[load] >= settings[4]};
                for (int fault = 0; fault < 3; fault++) {
                    if (seen[fault] && find(load, fault) == null) {
                        latched.add(new Latched(load, fault, now, currents[load]));
                        count++;
                    }
                }
            }
            log.set(now, new Slot(states, currents, heats, log.get(now).heldBefore(), held.clone(), settings[1]));
            return count;
        }

        private static int nextCurrent(int before, Integer drive, int step, int droop) {
            int current = before;
            int fall = droop;
            if (drive == null) {
                fall += step;
            } else {
                current += step * drive;
            }
            int size = Math.max(0, Math.abs(current) - fall);
            return Integer.signum(current) * Math.min(size, 1000000);
        }

        int slots(int number) {
            int count = 0;
            for (int slot = 0; slot < number; slot++) {
                count += slot();
            }
            return count;
        }
    }

    private State state = new State();
    private final Deque<State> history = new ArrayDeque<>();
    private String text = "";

    private void record() {
        history.addLast(state.copy());
        if (history.size() == 5) {
            history.removeFirst();
        }
    }

    private static boolean in(int value, int lowest, int highest) {
        return lowest <= value && value <= highest;
    }

    private static boolean in(int value, int[] range) {
        return in(value, range[0], range[1]);
    }

    int set(int what, int value) {
        if (!in(what, 0, 5) || !in(value, RANGES[what])) {
            return Check.INVALID;
        }
        record();
        int previous = state.settings[what];
        state.settings[what] = value;
        return previous;
    }

    int setLoad(int load, int what, int value) {
        if (!in(load, 0, 1) || !in(what, 0, 3) || !in(value, LOAD_RANGES[what])) {
            return Check.INVALID;
        }
        record();
        int previous = state.loads[load][what];
        state.loads[load][what] = value;
        return previous;
    }

    int command(int leg, int command) {
        if (!in(leg, 0, 3) || !in(command, 0, 2)) {
            return Check.INVALID;
        }
        record();
        int previous = state.commands[leg];
        state.commands[leg] = command;
        return previous;
    }

    int chop(int load, int on) {
        if (!in(load, 0, 1) || !in(on, 0, 1)) {
            return Check.INVALID;
        }
        record();
        boolean was = state.chopping[load];
        state.chopping[load] = on == 1;
        if (on == 0) {
            state.held[load] = false;
        }
        return was ? 1 : 0;
    }

    int go(int slots) {
        if (!in(slots, 1, 1000)) {
            return Check.INVALID;
        }
        if (state.log.size() + slots > 100000) {
            return Check.LIMIT;
        }
        record();
        return state.slots(slots);
    }

    int clear(int load, int fault) {
        if (!in(load, 0, 1) || !in(fault, 0, 2)) {
            return Check.INVALID;
        }
        if (!state.clearable(load, fault)) {
            return Check.IMPOSSIBLE;
        }
        record();
        state.latched.remove(state.find(load, fault));
        return state.latchedOf(load);
    }

    int undo() {
        if (history.isEmpty()) {
            return Check.IMPOSSIBLE;
        }
        state = history.removeLast();
        return history.size();
    }

    long count(int what) {
        List<Slot> log = state.log;
        switch (what) {
            case 0: return log.size();
            case 1: return state.latched.size();
            case 2: return log.size() < 32 ? log.size() : 32;
            case 3: return leg(0, 4) + leg(1, 4) + leg(2, 4) + leg(3, 4);
            case 4: return log.stream().mapToInt(one -> (one.heldBefore()[0] ? 1 : 0) + (one.heldBefore()[1] ? 1 : 0)).sum();
            case 5: return history.size();
            case 6: return text.length();
            case 20: return log.stream().mapToLong(one -> Math.abs(one.currents()[0]) + Math.abs(one.currents()[1])).sum();
            default: return in(what, 10, 15) ? state.settings[what - 10] : Check.INVALID;
        }
    }

    int leg(int leg, int what) {
        if (!in(leg, 0, 3) || !in(what, 0, 7)) {
            return Check.INVALID;
        }
        int slots = state.log.size();
        switch (what) {
            case 0: return state.commands[leg];
            case 1: return state.stateOf(leg, slots - 1);
            case 2: return state.wish(leg);
            case 3: return state.slotsSinceOn(leg);
            default: break;
        }
        int count = 0;
        for (int slot = 0; slot < slots; slot++) {
            int now = state.stateOf(leg, slot);
            boolean counts = what == 4 ? state.switchedIn(leg, slot) : now == (what == 5 ? 1 : what == 6 ? 2 : 0);
            count += counts ? 1 : 0;
        }
        return count;
    }

    int load(int load, int what) {
        if (!in(load, 0, 1) || !in(what, 0, 11)) {
            return Check.INVALID;
        }
        switch (what) {
            case 4: return state.current(load);
            case 5: return state.heat(load);
            case 6: return state.chopping[load] ? 1 : 0;
            case 7: return state.held[load] ? 1 : 0;
            case 8: return state.blankedFrom(load, state.log.size());
            case 9:
                Integer drive = state.log.isEmpty() ? null : state.drive(load, state.log.size() - 1);
                return drive == null ? Check.NONE : drive;
            case 10: return state.latchedOf(load);
            case 11: return state.drivenRun(load);
            default: return state.loads[load][what];
        }
    }

    int fault(int load, int fault, int what) {
        if (!in(load, 0, 1) || !in(fault, 0, 2) || !in(what, 0, 4)) {
            return Check.INVALID;
        }
        Latched one = state.find(load, fault);
        switch (what) {
            case 0: return one == null ? 0 : 1;
            case 1: return one == null ? Check.NONE : one.slot();
            case 2: return one == null ? Check.NONE : one.current();
            case 3: return one == null ? Check.NONE : state.place(one);
            default: return state.clearable(load, fault) ? 1 : 0;
        }
    }

    int scope(int back, int what) {
        if (back < 0 || !in(what, 0, 4)) {
            return Check.INVALID;
        }
        if (back >= 32 || back >= state.log.size()) {
            return Check.NONE;
        }
        int slot = state.log.size() - 1 - back;
        Slot seen = state.log.get(slot);
        switch (what) {
            case 0: return slot;
            case 1: return seen.currents()[0];
            case 2: return seen.currents()[1];
            case 3: return seen.states()[0] + 3 * seen.states()[1] + 9 * seen.states()[2] + 27 * seen.states()[3];
            default: return (seen.heldBehind()[0] ? 1 : 0) | (seen.heldBehind()[1] ? 2 : 0);
        }
    }

    int until(int load, int amount) {
        if (!in(load, 0, 1) || !in(amount, 1, 1000000)) {
            return Check.INVALID;
        }
        State trial = state.copy();
        int slots = 0;
        while (Math.abs(trial.current(load)) < amount) {
            if (slots == 1000) {
                return Check.NONE;
            }
            trial.slot();
            slots++;
        }
        return slots;
    }

    int ifGo(int load, int slots) {
        if (!in(load, 0, 1) || !in(slots, 1, 1000)) {
            return Check.INVALID;
        }
        State trial = state.copy();
        trial.slots(slots);
        return trial.current(load);
    }

    int type(int character) {
        if (!in(character, 32, 126)) {
            return Check.INVALID;
        }
        if (text.length() == 80) {
            return Check.LIMIT;
        }
        text += (char) character;
        return text.length();
    }

    int clearText() {
        int length = text.length();
        text = "";
        return length;
    }

    private static final Pattern FORM = Pattern.compile("([ohl=]{4}(\\*[0-9]{1,3})?;)*");
    private static final Pattern PART = Pattern.compile("([ohl=]{4})(\\*([0-9]{1,3}))?;");

    /** The length of the longest beginning that can become a pattern, the numbers' ranges aside. */
    private int viable() {
        for (int length = text.length(); length > 0; length--) {
            Matcher matcher = FORM.matcher(text.substring(0, length));
            if (matcher.matches() || matcher.hitEnd()) {
                return length;
            }
        }
        return 0;
    }

    int wrong() {
        int viable = viable();
        Matcher parts = PART.matcher(text.substring(0, viable));
        int end = 0;
        while (parts.find() && parts.start() == end) {
            if (parts.group(3) != null && !in(Integer.parseInt(parts.group(3)), 1, 500)) {
                return parts.start(3);
            }
            end = parts.end();
        }
        if (viable < text.length()) {
            return viable;
        }
        return end == text.length() ? Check.NONE : text.length();
    }

    private static int slotsOf(Matcher part) {
        return part.group(3) == null ? 1 : Integer.parseInt(part.group(3));
    }

    int playing() {
        if (wrong() != Check.NONE) {
            return Check.IMPOSSIBLE;
        }
        Matcher parts = PART.matcher(text);
        int slots = 0;
        while (parts.find()) {
            slots += slotsOf(parts);
        }
        return slots;
    }

    int play() {
        int slots = playing();
        if (slots < 0) {
            return slots;
        }
        if (state.log.size() + slots > 100000) {
            return Check.LIMIT;
        }
        record();
        Matcher parts = PART.matcher(text);
        while (parts.find()) {
            for (int leg = 0; leg < 4; leg++) {
                int command = "ohl".indexOf(parts.group(1).charAt(leg));
                state.commands[leg] = command < 0 ? state.commands[leg] : command;
            }
            state.slots(slotsOf(parts));
        }
        return slots;
    }
}
