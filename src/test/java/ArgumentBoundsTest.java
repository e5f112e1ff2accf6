import java.util.function.ToLongFunction;

/**
 * For each argument of each call the last values that are taken and the first that are refused on
 * either side; behind each refused call, that nothing has changed; and which error goes first.
 */
public final class ArgumentBoundsTest {
    private static final int LEAST = Integer.MIN_VALUE;
    private static final int GREATEST = Integer.MAX_VALUE;
    private static final int[][] SETTINGS = {{0, 20}, {0, 50}, {1, 1000000}, {2, 100}, {1, 1000000000}, {0, 1000000}};
    private static final int[][] LOAD_SETTINGS = {{1, 1000}, {0, 100}, {1, 900000}, {0, 900000}};
    private static final String PATTERN = "hl=o*3;==lh;";

    public static void main(String[] args) {
        settingsRefused();
        loadSettingsRefused();
        commandsRefused();
        choppersRefused();
        goRefused();
        goRefusedAtTheLimit();
        clearRefused();
        clearRefusedThoughLatched();
        undoRefused();
        looksRefused();
        faultsRefused();
        scopesRefused();
        forecastsRefused();
        typeRefused();
        playRefused();
        playRefusedAtTheLimit();
        edgesOfSettings();
        edgesOfLoadSettings();
        edgesOfNumbers();
        edgesOfForecasts();
        errorsInOrder();
        Check.end();
    }

    /** "A call that returns an error changes nothing": not what is seen, and not the history either. */
    private static void refused(String told, ToLongFunction<Counted> call, long want) {
        refused(told, PATTERN, call, want);
    }

    private static void refused(String told, String text, ToLongFunction<Counted> call, long want) {
        Counted x = Check.busy(text);
        Counted twin = Check.busy(text);
        Check.due(told, call.applyAsLong(x), want);
        Check.same("behind " + told, Check.look(x), Check.look(twin));
        Check.due("undo behind " + told, x.undo(), 3);
        twin.undo();
        Check.due("slot undone behind " + told, x.count(0), 40);
        for (int left = 2; left >= 0; left--) {
            Check.due("undo behind " + told, x.undo(), left);
            twin.undo();
        }
        Check.due("no undo behind " + told, x.undo(), Check.IMPOSSIBLE);
        twin.go(3);
        x.go(3);
        Check.same("undone behind " + told, Check.look(x), Check.look(twin));
    }

    private static void invalid(String told, ToLongFunction<Counted> call) {
        refused(told, call, Check.INVALID);
    }

    private static int[] outside(int lowest, int highest) {
        return new int[] {lowest - 1, highest + 1, LEAST, GREATEST};
    }

    /** set: "a value in its range", "INVALID_ARGUMENT if an argument is out of range". */
    private static void settingsRefused() {
        for (int what = 0; what < SETTINGS.length; what++) {
            int number = what;
            for (int value : outside(SETTINGS[what][0], SETTINGS[what][1])) {
                invalid("set(" + number + ", " + value + ")", x -> x.set(number, value));
            }
        }
        for (int what : outside(0, 5)) {
            for (int value : new int[] {2, 1000}) {
                invalid("set(" + what + ", " + value + ")", x -> x.set(what, value));
            }
        }
    }

    /** setLoad: "0 or 1", "a value in its range". */
    private static void loadSettingsRefused() {
        for (int load = 0; load <= 1; load++) {
            int loadNumber = load;
            for (int what = 0; what < LOAD_SETTINGS.length; what++) {
                int number = what;
                for (int value : outside(LOAD_SETTINGS[what][0], LOAD_SETTINGS[what][1])) {
                    invalid("setLoad(" + load + ", " + what + ", " + value + ")", x -> x.setLoad(loadNumber, number, value));
                }
            }
            for (int what : outside(0, 3)) {
                invalid("setLoad(" + load + ", " + what + ", 7)", x -> x.setLoad(loadNumber, what, 7));
            }
        }
        for (int load : outside(0, 1)) {
            for (int what = 0; what <= 3; what++) {
                int number = what;
                invalid("setLoad(" + load + ", " + what + ", 7)", x -> x.setLoad(load, number, 7));
            }
        }
    }

    /** command: "0 to 3", "0 to 2". */
    private static void commandsRefused() {
        for (int leg : outside(0, 3)) {
            invalid("command(" + leg + ", 1)", x -> x.command(leg, 1));
            invalid("command(" + leg + ", 0)", x -> x.command(leg, 0));
        }
        for (int leg = 0; leg <= 3; leg++) {
            int number = leg;
            for (int command : outside(0, 2)) {
                invalid("command(" + leg + ", " + command + ")", x -> x.command(number, command));
            }
        }
    }

    /** chop: "0 or 1", "1 or 0". */
    private static void choppersRefused() {
        for (int load : outside(0, 1)) {
            invalid("chop(" + load + ", 0)", x -> x.chop(load, 0));
            invalid("chop(" + load + ", 1)", x -> x.chop(load, 1));
        }
        for (int on : outside(0, 1)) {
            invalid("chop(0, " + on + ")", x -> x.chop(0, on));
            invalid("chop(1, " + on + ")", x -> x.chop(1, on));
        }
    }

    /** go: "1 to 1000". */
    private static void goRefused() {
        for (int slots : outside(1, 1000)) {
            invalid("go(" + slots + ")", x -> x.go(slots));
        }
        invalid("go(-1)", x -> x.go(-1));
    }

    /** A bridge at the slot 99995, with four states in its history. */
    private static Counted late(String text) {
        Counted x = new Counted();
        for (int time = 0; time < 99; time++) {
            x.go(1000);
        }
        Check.commands(x, 1, 2, 2, 1);
        x.go(995);
        Check.text(x, text);
        return x;
    }

    /** go: "LIMIT_REACHED if the slot would be greater than 100000". */
    private static void goRefusedAtTheLimit() {
        Counted x = late("");
        Counted twin = late("");
        Check.due("go(6) at 99995", x.go(6), Check.LIMIT);
        Check.due("go(1000) at 99995", x.go(1000), Check.LIMIT);
        Check.same("behind go(6) at 99995", Check.look(x), Check.look(twin));
        Check.due("go(5) at 99995", x.go(5), 0);
        Check.due("the slot 100000", x.count(0), 100000);
        Check.due("the last slot", x.scope(0, 0), 99999);
        Check.due("go(1) at 100000", x.go(1), Check.LIMIT);
        Check.due("go(1001) at 100000", x.go(1001), Check.INVALID);
        Check.due("go(0) at 100000", x.go(0), Check.INVALID);
        Check.due("undo of go(5)", x.undo(), 3);
        Check.same("undone to 99995", Check.look(x), Check.look(twin), "count(5)");
    }

    /** clear: "0 or 1", "0 to 2". */
    private static void clearRefused() {
        for (int load : outside(0, 1)) {
            for (int fault = 0; fault <= 2; fault++) {
                int number = fault;
                invalid("clear(" + load + ", " + fault + ")", x -> x.clear(load, number));
            }
        }
        for (int fault : outside(0, 2)) {
            invalid("clear(0, " + fault + ")", x -> x.clear(0, fault));
            invalid("clear(1, " + fault + ")", x -> x.clear(1, fault));
        }
    }

    /** clear: "NOT_POSSIBLE if this fault is not the first one that is latched, or what caused it is still there". */
    private static void clearRefusedThoughLatched() {
        // The load 0 has no fault latched, and the load 1 over current alone.
        refused("clear(0, 0) of none", x -> x.clear(0, 0), Check.IMPOSSIBLE);
        refused("clear(0, 1) of none", x -> x.clear(0, 1), Check.IMPOSSIBLE);
        refused("clear(0, 2) of none", x -> x.clear(0, 2), Check.IMPOSSIBLE);
        refused("clear(1, 1) of none", x -> x.clear(1, 1), Check.IMPOSSIBLE);
        refused("clear(1, 2) of none", x -> x.clear(1, 2), Check.IMPOSSIBLE);
        Counted x = tripped();
        Counted twin = tripped();
        Check.due("clear with its cause there", x.clear(0, 0), Check.IMPOSSIBLE);
        Check.due("clear of the second one", x.clear(0, 1), Check.IMPOSSIBLE);
        Check.same("behind both", Check.look(x), Check.look(twin));
    }

    /** Over current and open are latched, and over current is still there. */
    private static Counted tripped() {
        Counted x = new Counted();
        x.set(1, 0);
        x.set(3, 2);
        x.setLoad(0, 1, 50);
        x.setLoad(0, 0, 90);
        Check.commands(x, 1, 2, 0, 0);
        x.go(1);
        x.set(2, 80);
        x.setLoad(0, 0, 100);
        x.go(1);
        Check.due("over current", x.fault(0, 0, 1), 1);
        Check.due("open", x.fault(0, 1, 1), 1);
        return x;
    }

    /** undo: "NOT_POSSIBLE if it is empty". */
    private static void undoRefused() {
        Counted x = new Counted();
        Counted twin = new Counted();
        Check.due("undo of nothing", x.undo(), Check.IMPOSSIBLE);
        Check.same("behind undo of nothing", Check.look(x), Check.look(twin));
        x = Check.busy("h");
        while (x.count(5) > 0) {
            x.undo();
        }
        long slots = x.count(0);
        Check.due("undo of no more", x.undo(), Check.IMPOSSIBLE);
        Check.due("slots", x.count(0), slots);
        Check.due("a setting", x.count(12), 700);
        Check.due("history", x.count(5), 0);
        Check.due("text", x.count(6), 1);
    }

    /** count, leg, load: "INVALID_ARGUMENT if an argument is out of range". */
    private static void looksRefused() {
        for (int what : new int[] {LEAST, -1, 7, 8, 9, 16, 17, 18, 19, 21, GREATEST}) {
            invalid("count(" + what + ")", x -> x.count(what));
        }
        for (int leg : outside(0, 3)) {
            for (int what = 0; what <= 7; what++) {
                int number = what;
                invalid("leg(" + leg + ", " + what + ")", x -> x.leg(leg, number));
            }
        }
        for (int what : outside(0, 7)) {
            invalid("leg(0, " + what + ")", x -> x.leg(0, what));
            invalid("leg(3, " + what + ")", x -> x.leg(3, what));
        }
        for (int load : outside(0, 1)) {
            for (int what = 0; what <= 11; what++) {
                int number = what;
                invalid("load(" + load + ", " + what + ")", x -> x.load(load, number));
            }
        }
        for (int what : outside(0, 11)) {
            invalid("load(0, " + what + ")", x -> x.load(0, what));
            invalid("load(1, " + what + ")", x -> x.load(1, what));
        }
        // The drive of the load 1 is none, as its fault keeps its legs off.
        refused("load(1, 9)", x -> x.load(1, 9), Check.NONE);
    }

    /** fault: "INVALID_ARGUMENT if an argument is out of range; NOT_FOUND for 1 to 3 if it is not latched". */
    private static void faultsRefused() {
        for (int what = 0; what <= 4; what++) {
            int number = what;
            for (int load : outside(0, 1)) {
                invalid("fault(" + load + ", 0, " + what + ")", x -> x.fault(load, 0, number));
            }
            for (int fault : outside(0, 2)) {
                invalid("fault(1, " + fault + ", " + what + ")", x -> x.fault(1, fault, number));
            }
        }
        for (int what : outside(0, 4)) {
            invalid("fault(1, 0, " + what + ") of a latched one", x -> x.fault(1, 0, what));
            invalid("fault(0, 2, " + what + ") of one that is not latched", x -> x.fault(0, 2, what));
        }
        for (int what = 1; what <= 3; what++) {
            int number = what;
            refused("fault(0, 0, " + what + ")", x -> x.fault(0, 0, number), Check.NONE);
            refused("fault(1, 1, " + what + ")", x -> x.fault(1, 1, number), Check.NONE);
            refused("fault(1, 2, " + what + ")", x -> x.fault(1, 2, number), Check.NONE);
        }
        Counted x = Check.busy("");
        for (int fault = 0; fault <= 2; fault++) {
            Check.due("0 if it is not latched", x.fault(0, fault, 0), 0);
            Check.due("0 if it could not be cleared", x.fault(0, fault, 4), 0);
        }
    }

    /** scope: "INVALID_ARGUMENT if back is negative or what is out of range; NOT_FOUND if it does not keep so many". */
    private static void scopesRefused() {
        for (int what = 0; what <= 4; what++) {
            int number = what;
            invalid("scope(-1, " + what + ")", x -> x.scope(-1, number));
            invalid("scope(least, " + what + ")", x -> x.scope(LEAST, number));
            refused("scope(32, " + what + ")", x -> x.scope(32, number), Check.NONE);
            refused("scope(33, " + what + ")", x -> x.scope(33, number), Check.NONE);
            refused("scope(greatest, " + what + ")", x -> x.scope(GREATEST, number), Check.NONE);
        }
        for (int what : outside(0, 4)) {
            invalid("scope(0, " + what + ")", x -> x.scope(0, what));
            invalid("scope(31, " + what + ")", x -> x.scope(31, what));
            invalid("scope(32, " + what + ")", x -> x.scope(32, what));
        }
    }

    /** until: "0 or 1", "1 to 1000000"; ifGo: "0 or 1", "1 to 1000"; "Nothing changes". */
    private static void forecastsRefused() {
        for (int load : outside(0, 1)) {
            invalid("until(" + load + ", 1)", x -> x.until(load, 1));
            invalid("ifGo(" + load + ", 1)", x -> x.ifGo(load, 1));
        }
        for (int load = 0; load <= 1; load++) {
            int number = load;
            for (int amount : outside(1, 1000000)) {
                invalid("until(" + load + ", " + amount + ")", x -> x.until(number, amount));
            }
            for (int slots : outside(1, 1000)) {
                invalid("ifGo(" + load + ", " + slots + ")", x -> x.ifGo(number, slots));
            }
            refused("until(" + load + ", 1000000)", x -> x.until(number, 1000000), Check.NONE);
        }
    }

    /** type: "32 to 126"; "LIMIT_REACHED if it has 80 characters". */
    private static void typeRefused() {
        for (int character : new int[] {LEAST, -1, 0, 31, 127, 128, 256 + 'h', 65536 + 'h', GREATEST}) {
            invalid("type(" + character + ")", x -> x.type(character));
        }
        String full = "hl==*500;".repeat(8) + "oh=l*1;=";
        Check.due("length of the full text", full.length(), 80);
        for (int character : new int[] {32, ';', 'h', 126}) {
            refused("type(" + character + ") into a full text", full, x -> x.type(character), Check.LIMIT);
        }
        refused("type(31) into a full text", full, x -> x.type(31), Check.INVALID);
        refused("type(127) into a full text", full, x -> x.type(127), Check.INVALID);
    }

    /** play and playing: "NOT_POSSIBLE if it has a fault". */
    private static void playRefused() {
        for (String text : new String[] {"h", "hlhl", "hlhl*", "hlhl*5", "hlhl*0;", "hlhl*501;", "hlhl;x", "hlhl*3;hl"}) {
            refused("play() of \"" + text + "\"", text, x -> x.play(), Check.IMPOSSIBLE);
            refused("playing() of \"" + text + "\"", text, x -> x.playing(), Check.IMPOSSIBLE);
        }
    }

    /** play: "LIMIT_REACHED if the slot would be greater than 100000". */
    private static void playRefusedAtTheLimit() {
        Counted x = late("lhlh*5;oooo;");
        Counted twin = late("lhlh*5;oooo;");
        Check.due("play() of 6 at 99995", x.play(), Check.LIMIT);
        Check.due("playing() of 6 at 99995", x.playing(), 6);
        Check.same("behind play() of 6 at 99995", Check.look(x), Check.look(twin));
        Check.text(x, "lhlh*4;oooo;");
        Check.due("play() of 5 at 99995", x.play(), 5);
        Check.due("the slot 100000", x.count(0), 100000);
        Check.text(x, "oooo;");
        Check.due("play() of 1 at 100000", x.play(), Check.LIMIT);
        Check.text(x, "");
        Check.due("play() of nothing at 100000", x.play(), 0);
        Check.due("still the slot 100000", x.count(0), 100000);
    }

    /** set: the ranges' ends are taken, and the previous value is returned. */
    private static void edgesOfSettings() {
        int[] initial = {2, 3, 5000, 20, 1000000, 100};
        for (int what = 0; what < SETTINGS.length; what++) {
            Counted x = new Counted();
            int previous = initial[what];
            int lowest = SETTINGS[what][0];
            int highest = SETTINGS[what][1];
            for (int value : new int[] {lowest, lowest + 1, highest - 1, highest, lowest}) {
                Check.due("set(" + what + ", " + value + ")", x.set(what, value), previous);
                Check.due("count(" + (10 + what) + ")", x.count(10 + what), value);
                previous = value;
            }
        }
    }

    /** setLoad: the ranges' ends are taken, and the previous value is returned. */
    private static void edgesOfLoadSettings() {
        int[] initial = {50, 10, 1000, 100};
        for (int load = 0; load <= 1; load++) {
            for (int what = 0; what < LOAD_SETTINGS.length; what++) {
                Counted x = new Counted();
                int previous = initial[what];
                int lowest = LOAD_SETTINGS[what][0];
                int highest = LOAD_SETTINGS[what][1];
                for (int value : new int[] {lowest, lowest + 1, highest - 1, highest, lowest}) {
                    Check.due("setLoad(" + load + ", " + what + ", " + value + ")", x.setLoad(load, what, value), previous);
                    Check.due("load(" + load + ", " + what + ")", x.load(load, what), value);
                    previous = value;
                }
            }
        }
    }

    /** The first and the last leg, load, command, number of slots and character are taken. */
    private static void edgesOfNumbers() {
        Counted x = new Counted();
        Check.due("command(0, 2)", x.command(0, 2), 0);
        Check.due("command(0, 0)", x.command(0, 0), 2);
        Check.due("command(3, 2)", x.command(3, 2), 0);
        Check.due("leg(3, 0)", x.leg(3, 0), 2);
        Check.due("leg(3, 7)", x.leg(3, 7), 0);
        Check.due("chop(0, 1)", x.chop(0, 1), 0);
        Check.due("chop(0, 0)", x.chop(0, 0), 1);
        Check.due("chop(1, 1)", x.chop(1, 1), 0);
        Check.due("load(1, 11)", x.load(1, 11), 0);
        Check.due("go(1)", x.go(1), 0);
        Check.due("go(1000)", x.go(1000), 0);
        Check.due("slots", x.count(0), 1001);
        Check.due("type(32)", x.type(32), 1);
        Check.due("type(126)", x.type(126), 2);
        Check.due("count(15)", x.count(15), 100);
        Check.due("count(20)", x.count(20), 0);
        Check.due("scope(31, 4)", x.scope(31, 4), 0);
        Check.due("scope(32, 4)", x.scope(32, 4), Check.NONE);
    }

    /** until: "the number of slots, 0 to 1000", "NOT_FOUND if it is not so within 1000 slots"; ifGo: "1 to 1000". */
    private static void edgesOfForecasts() {
        for (int load = 0; load <= 1; load++) {
            Counted x = new Counted();
            x.set(2, 1000000);
            x.set(5, 1000000);
            x.setLoad(load, 0, 3);
            x.setLoad(load, 1, 0);
            x.command(2 * load, load == 0 ? 1 : 2);
            x.command(2 * load + 1, load == 0 ? 2 : 1);
            int sign = load == 0 ? 1 : -1;
            Check.due("until 1", x.until(load, 1), 1);
            Check.due("until 3", x.until(load, 3), 1);
            Check.due("until 4", x.until(load, 4), 2);
            Check.due("until 2997", x.until(load, 2997), 999);
            Check.due("until 2998", x.until(load, 2998), 1000);
            Check.due("until 3000", x.until(load, 3000), 1000);
            Check.due("until 3001", x.until(load, 3001), Check.NONE);
            Check.due("until 1000000", x.until(load, 1000000), Check.NONE);
            Check.due("ifGo(.., 1)", x.ifGo(load, 1), sign * 3);
            Check.due("ifGo(.., 999)", x.ifGo(load, 999), sign * 2997);
            Check.due("ifGo(.., 1000)", x.ifGo(load, 1000), sign * 3000);
            Check.due("until of the other load", x.until(1 - load, 1), Check.NONE);
            Check.due("ifGo of the other load", x.ifGo(1 - load, 1000), 0);
            x.go(1);
            Check.due("until 3, as it is", x.until(load, 3), 0);
            Check.due("until 1, as it is", x.until(load, 1), 0);
            Check.due("until 4, in one", x.until(load, 4), 1);
            Check.due("until 3003, in 1000", x.until(load, 3003), 1000);
            Check.due("until 3004", x.until(load, 3004), Check.NONE);
        }
    }

    /** "If several errors apply to a call, INVALID_ARGUMENT is returned rather than NOT_POSSIBLE", and so on. */
    private static void errorsInOrder() {
        Counted x = new Counted();
        Check.due("clear(2, 0): no load, nothing to clear", x.clear(2, 0), Check.INVALID);
        Check.due("clear(0, 3): no fault, nothing to clear", x.clear(0, 3), Check.INVALID);
        Check.due("fault(0, 3, 1): no fault, not latched", x.fault(0, 3, 1), Check.INVALID);
        Check.due("fault(0, 0, 5): not latched", x.fault(0, 0, 5), Check.INVALID);
        Check.due("load(2, 9): no load, no drive", x.load(2, 9), Check.INVALID);
        Check.due("scope(0, 5): nothing kept", x.scope(0, 5), Check.INVALID);
        Check.due("scope(-1, 0): nothing kept", x.scope(-1, 0), Check.INVALID);
        Check.due("until(2, 1000): no load, no such current", x.until(2, 1000), Check.INVALID);
        Check.due("until(0, 1000001): no such current", x.until(0, 1000001), Check.INVALID);
        x = late("hhhh*6;x");
        Check.due("play() with a fault at 99995", x.play(), Check.IMPOSSIBLE);
        Check.text(x, "hhhh*6;");
        Check.due("play() of 6 at 99995", x.play(), Check.LIMIT);
        Check.due("go(1001) at 99995", x.go(1001), Check.INVALID);
        Check.due("go(0) at 99995", x.go(0), Check.INVALID);
    }
}
