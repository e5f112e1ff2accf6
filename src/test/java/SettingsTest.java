/** Promises 1 to 5: a new object, set, setLoad, command, chop. */
public final class SettingsTest {
    private static final int[] LOWEST = {0, 0, 1, 2, 1, 0};
    private static final int[] HIGHEST = {20, 50, 1000000, 100, 1000000000, 1000000};
    private static final int[] INITIAL = {2, 3, 5000, 20, 1000000, 100};
    private static final int[] LOAD_LOWEST = {1, 0, 1, 0};
    private static final int[] LOAD_HIGHEST = {1000, 100, 900000, 900000};
    private static final int[] LOAD_INITIAL = {50, 10, 1000, 100};

    public static void main(String[] args) {
        newObject();
        objectsAreApart();
        set();
        setLoad();
        settingsApply();
        command();
        chop();
        chopperTurnedOffHoldsNothing();
        Check.end();
    }

    private static void newObject() {
        Counted x = new Counted();
        Check.due("INVALID_ARGUMENT", BridgeLegs.INVALID_ARGUMENT, Check.INVALID);
        Check.due("NOT_POSSIBLE", BridgeLegs.NOT_POSSIBLE, Check.IMPOSSIBLE);
        Check.due("LIMIT_REACHED", BridgeLegs.LIMIT_REACHED, Check.LIMIT);
        Check.due("NOT_FOUND", BridgeLegs.NOT_FOUND, Check.NONE);
        for (int what = 0; what <= 6; what++) {
            Check.due("new: count(" + what + ")", x.count(what), 0);
        }
        Check.due("new: count(20)", x.count(20), 0);
        for (int leg = 0; leg < 4; leg++) {
            for (int what = 0; what < 8; what++) {
                Check.due("new: leg(" + leg + ", " + what + ")", x.leg(leg, what), 0);
            }
        }
        for (int load = 0; load < 2; load++) {
            for (int what = 4; what < 12; what++) {
                Check.due("new: load(" + load + ", " + what + ")", x.load(load, what), what == 9 ? Check.NONE : 0);
            }
            for (int fault = 0; fault < 3; fault++) {
                Check.due("new: fault latched", x.fault(load, fault, 0), 0);
                Check.due("new: fault clearable", x.fault(load, fault, 4), 0);
            }
        }
        Check.due("new: scope(0, 0)", x.scope(0, 0), Check.NONE);
        Check.due("new: undo()", x.undo(), Check.IMPOSSIBLE);
        Check.due("new: wrong()", x.wrong(), Check.NONE);
        Check.due("new: playing()", x.playing(), 0);
    }

    /** A new object is as it was promised, also when others were used before it and are used beside it. */
    private static void objectsAreApart() {
        Counted used = Check.busy("hl==*3;");
        newObject();
        Counted other = Check.busy("hl==*3;");
        Counted beside = new Counted();
        beside.set(1, 9);
        beside.setLoad(0, 2, 9);
        Check.commands(beside, 2, 1, 1, 2);
        beside.chop(0, 1);
        beside.go(60);
        beside.undo();
        Check.text(beside, "oooo");
        beside.until(1, 800);
        beside.ifGo(1, 50);
        Check.same("beside another", Check.look(used), Check.look(other));
        Check.due("undo of it", used.undo(), 3);
        Check.due("slot of it", used.count(0), 40);
        Check.due("slot of the other", other.count(0), 41);
        Check.due("states of the other", other.count(5), 4);
    }

    private static void set() {
        for (int what = 0; what < 6; what++) {
            Counted x = new Counted();
            String call = "set(" + what + ", ..)";
            Check.due(call + " too low", x.set(what, LOWEST[what] - 1), Check.INVALID);
            Check.due(call + " too high", x.set(what, HIGHEST[what] + 1), Check.INVALID);
            Check.due(call + " least int", x.set(what, Integer.MIN_VALUE), Check.INVALID);
            Check.due(call + " greatest int", x.set(what, Integer.MAX_VALUE), Check.INVALID);
            Check.due(call + " wrong ones are no changes", x.count(5), 0);
            Check.due(call + " stays", x.count(10 + what), INITIAL[what]);
            Check.due(call + " lowest", x.set(what, LOWEST[what]), INITIAL[what]);
            Check.due(call + " is lowest", x.count(10 + what), LOWEST[what]);
            Check.due(call + " highest", x.set(what, HIGHEST[what]), LOWEST[what]);
            Check.due(call + " is highest", x.count(10 + what), HIGHEST[what]);
            Check.due(call + " highest again", x.set(what, HIGHEST[what]), HIGHEST[what]);
            Check.due(call + " three changes", x.count(5), 3);
            for (int other = 0; other < 6; other++) {
                if (other != what) {
                    Check.due(call + " others stay", x.count(10 + other), INITIAL[other]);
                }
            }
        }
        Counted x = new Counted();
        for (int what : new int[] {-1, 6, 7, 10, Integer.MIN_VALUE, Integer.MAX_VALUE}) {
            Check.due("set(" + what + ", 2)", x.set(what, 2), Check.INVALID);
        }
        Check.due("set of nothing is no change", x.count(5), 0);
    }

    private static void setLoad() {
        for (int load = 0; load < 2; load++) {
            for (int what = 0; what < 4; what++) {
                Counted x = new Counted();
                String call = "setLoad(" + load + ", " + what + ", ..)";
                Check.due(call + " too low", x.setLoad(load, what, LOAD_LOWEST[what] - 1), Check.INVALID);
                Check.due(call + " too high", x.setLoad(load, what, LOAD_HIGHEST[what] + 1), Check.INVALID);
                Check.due(call + " wrong ones are no changes", x.count(5), 0);
                Check.due(call + " stays", x.load(load, what), LOAD_INITIAL[what]);
                Check.due(call + " lowest", x.setLoad(load, what, LOAD_LOWEST[what]), LOAD_INITIAL[what]);
                Check.due(call + " highest", x.setLoad(load, what, LOAD_HIGHEST[what]), LOAD_LOWEST[what]);
                Check.due(call + " is highest", x.load(load, what), LOAD_HIGHEST[what]);
                Check.due(call + " two changes", x.count(5), 2);
                Check.due(call + " other load stays", x.load(1 - load, what), LOAD_INITIAL[what]);
                for (int other = 0; other < 4; other++) {
                    if (other != what) {
                        Check.due(call + " others stay", x.load(load, other), LOAD_INITIAL[other]);
                    }
                }
            }
        }
        Counted x = new Counted();
        for (int load : new int[] {-1, 2, Integer.MIN_VALUE, Integer.MAX_VALUE}) {
            Check.due("setLoad(" + load + ", 0, 5)", x.setLoad(load, 0, 5), Check.INVALID);
        }
        for (int what : new int[] {-1, 4, 5, Integer.MIN_VALUE, Integer.MAX_VALUE}) {
            Check.due("setLoad(0, " + what + ", 5)", x.setLoad(0, what, 5), Check.INVALID);
        }
        Check.due("setLoad of nothing is no change", x.count(5), 0);
    }

    private static void settingsApply() {
        Counted x = new Counted();
        x.setLoad(1, 0, 1000);
        x.setLoad(1, 1, 100);
        Check.commands(x, 1, 2, 2, 1);
        x.go(2);
        Check.due("load 0 keeps step 50 and droop 10", x.load(0, 4), 80);
        Check.due("load 1 has step 1000 and droop 100", x.load(1, 4), -1800);
        x.set(0, 1);
        x.set(1, 50);
        x.command(0, 2);
        x.go(2);
        Check.due("1 dead slot", x.leg(0, 1), 2);
        Check.due("blanked for 50, one of them gone", x.load(0, 8), 49);
    }

    private static void command() {
        for (int leg = 0; leg < 4; leg++) {
            Counted x = new Counted();
            String call = "command(" + leg + ", ..)";
            Check.due(call + " -1", x.command(leg, -1), Check.INVALID);
            Check.due(call + " 3", x.command(leg, 3), Check.INVALID);
            Check.due(call + " wrong ones are no changes", x.count(5), 0);
            Check.due(call + " high", x.command(leg, 1), 0);
            Check.due(call + " low", x.command(leg, 2), 1);
            Check.due(call + " is low", x.leg(leg, 0), 2);
            Check.due(call + " wishes low", x.leg(leg, 2), 2);
            Check.due(call + " is still off", x.leg(leg, 1), 0);
            Check.due(call + " off", x.command(leg, 0), 2);
            Check.due(call + " off again", x.command(leg, 0), 0);
            Check.due(call + " four changes", x.count(5), 4);
            x.command(leg, 2);
            for (int other = 0; other < 4; other++) {
                Check.due(call + " commands this leg", x.leg(other, 0), other == leg ? 2 : 0);
            }
        }
        Counted x = new Counted();
        for (int leg : new int[] {-1, 4, Integer.MIN_VALUE, Integer.MAX_VALUE}) {
            Check.due("command(" + leg + ", 1)", x.command(leg, 1), Check.INVALID);
        }
        Check.due("command(0, least)", x.command(0, Integer.MIN_VALUE), Check.INVALID);
        Check.due("command of nothing is no change", x.count(5), 0);
    }

    private static void chop() {
        Counted x = new Counted();
        Check.due("chop(0, -1)", x.chop(0, -1), Check.INVALID);
        Check.due("chop(0, 2)", x.chop(0, 2), Check.INVALID);
        Check.due("chop(-1, 1)", x.chop(-1, 1), Check.INVALID);
        Check.due("chop(2, 1)", x.chop(2, 1), Check.INVALID);
        Check.due("chop(least, 1)", x.chop(Integer.MIN_VALUE, 1), Check.INVALID);
        Check.due("wrong ones are no changes", x.count(5), 0);
        Check.due("chop(1, 1)", x.chop(1, 1), 0);
        Check.due("chop(1, 1) again", x.chop(1, 1), 1);
        Check.due("load 1 chops", x.load(1, 6), 1);
        Check.due("load 0 does not", x.load(0, 6), 0);
        Check.due("chop(1, 0)", x.chop(1, 0), 1);
        Check.due("chop(1, 0) again", x.chop(1, 0), 0);
        Check.due("load 1 does not chop", x.load(1, 6), 0);
        Check.due("four changes", x.count(5), 4);
    }

    private static void chopperTurnedOffHoldsNothing() {
        Counted x = new Counted();
        x.set(1, 0);
        x.setLoad(0, 2, 100);
        x.chop(0, 1);
        Check.commands(x, 1, 2, 0, 0);
        x.go(3);
        Check.due("held at 120", x.load(0, 7), 1);
        x.chop(0, 1);
        Check.due("on again while on: still held", x.load(0, 7), 1);
        x.chop(0, 0);
        Check.due("off: not held", x.load(0, 7), 0);
        Check.due("off: the leg wishes its own command", x.leg(0, 2), 1);
        x.chop(0, 1);
        Check.due("on again: not held at first", x.load(0, 7), 0);
        x.go(1);
        Check.due("on again: held by its eye", x.load(0, 7), 1);
        x.chop(0, 0);
        x.go(5);
        Check.due("off: the eye holds nothing", x.load(0, 7), 0);
    }
}
