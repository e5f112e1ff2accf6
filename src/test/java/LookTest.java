/** Promises 9, 10, 11 and 13: count, leg, load, scope. (The model test has more of them.) */
public final class LookTest {
    public static void main(String[] args) {
        countOfWhat();
        count();
        legOfWhat();
        leg();
        loadOfWhat();
        load();
        scopeArguments();
        scope();
        scopeKeepsTheLatest();
        Check.end();
    }

    private static void countOfWhat() {
        Counted x = new Counted();
        for (int what : new int[] {Integer.MIN_VALUE, -1, 7, 8, 9, 16, 17, 18, 19, 21, 30, Integer.MAX_VALUE}) {
            Check.due("count(" + what + ")", x.count(what), Check.INVALID);
        }
    }

    private static void count() {
        Counted x = new Counted();
        Check.commands(x, 1, 2, 2, 1);
        x.go(3);
        x.command(0, 2);
        x.go(3);
        Check.text(x, "hh");
        Check.due("slots", x.count(0), 6);
        Check.due("latched", x.count(1), 0);
        Check.due("scope", x.count(2), 6);
        Check.due("switchings", x.count(3), 6);
        Check.due("history", x.count(5), 4);
        Check.due("text", x.count(6), 2);
        // Load 0: 40 80 120 60 0 0; load 1: 40 to 240.
        Check.due("sizes", x.count(20), 300 + 840);
        Check.due("current of load 1", x.load(1, 4), -240);
        x = new Counted();
        x.set(1, 0);
        x.chop(0, 1);
        x.chop(1, 1);
        x.setLoad(0, 2, 40);
        x.setLoad(1, 2, 80);
        Check.commands(x, 1, 2, 1, 2);
        x.go(3);
        Check.due("held slots of both loads", x.count(4), 3);
    }

    private static void legOfWhat() {
        Counted x = new Counted();
        for (int leg = 0; leg < 4; leg++) {
            Check.due("leg(.., -1)", x.leg(leg, -1), Check.INVALID);
            Check.due("leg(.., 8)", x.leg(leg, 8), Check.INVALID);
            Check.due("leg(.., least)", x.leg(leg, Integer.MIN_VALUE), Check.INVALID);
            Check.due("leg(.., greatest)", x.leg(leg, Integer.MAX_VALUE), Check.INVALID);
        }
        for (int what = 0; what < 8; what++) {
            Check.due("leg(-1, ..)", x.leg(-1, what), Check.INVALID);
            Check.due("leg(4, ..)", x.leg(4, what), Check.INVALID);
            Check.due("leg(least, ..)", x.leg(Integer.MIN_VALUE, what), Check.INVALID);
            Check.due("leg(greatest, ..)", x.leg(Integer.MAX_VALUE, what), Check.INVALID);
        }
    }

    private static void leg(Counted x, int leg, int... want) {
        for (int what = 0; what < want.length; what++) {
            Check.due("leg(" + leg + ", " + what + ")", x.leg(leg, what), want[what]);
        }
    }

    private static void leg() {
        Counted x = new Counted();
        x.go(5);
        leg(x, 2, 0, 0, 0, 5, 0, 0, 0, 5);
        x.command(2, 2);
        leg(x, 2, 2, 0, 2, 5, 0, 0, 0, 5);
        x.go(4);
        leg(x, 2, 2, 2, 2, 0, 1, 0, 4, 5);
        x.command(2, 1);
        x.go(1);
        leg(x, 2, 1, 0, 1, 1, 2, 0, 4, 6);
        x.go(1);
        leg(x, 2, 1, 0, 1, 2, 2, 0, 4, 7);
        x.go(1);
        leg(x, 2, 1, 1, 1, 0, 3, 1, 4, 7);
        leg(x, 3, 0, 0, 0, 12, 0, 0, 0, 12);
    }

    private static void loadOfWhat() {
        Counted x = new Counted();
        for (int load = 0; load < 2; load++) {
            Check.due("load(.., -1)", x.load(load, -1), Check.INVALID);
            Check.due("load(.., 12)", x.load(load, 12), Check.INVALID);
            Check.due("load(.., least)", x.load(load, Integer.MIN_VALUE), Check.INVALID);
            Check.due("load(.., greatest)", x.load(load, Integer.MAX_VALUE), Check.INVALID);
        }
        for (int what = 0; what < 12; what++) {
            Check.due("load(-1, ..)", x.load(-1, what), Check.INVALID);
            Check.due("load(2, ..)", x.load(2, what), Check.INVALID);
            Check.due("load(least, ..)", x.load(Integer.MIN_VALUE, what), Check.INVALID);
        }
    }

    private static void load(Counted x, int load, int... want) {
        for (int what = 0; what < want.length; what++) {
            Check.due("load(" + load + ", " + what + ")", x.load(load, what), want[what]);
        }
    }

    private static void load() {
        Counted x = new Counted();
        x.setLoad(1, 0, 500);
        x.setLoad(1, 1, 20);
        x.setLoad(1, 2, 960);
        x.setLoad(1, 3, 300);
        x.set(1, 2);
        load(x, 1, 500, 20, 960, 300, 0, 0, 0, 0, 0, Check.NONE, 0, 0);
        Check.commands(x, 0, 0, 2, 1);
        x.go(1);
        load(x, 1, 500, 20, 960, 300, -480, 130, 0, 0, 1, -1, 0, 1);
        x.chop(1, 1);
        x.go(1);
        load(x, 1, 500, 20, 960, 300, -960, 951, 1, 0, 0, -1, 0, 2);
        x.go(1);
        load(x, 1, 500, 20, 960, 300, -1440, 2924, 1, 1, 0, -1, 0, 3);
        x.go(1);
        load(x, 1, 500, 20, 960, 300, -920, 3670, 1, 1, 1, Check.NONE, 0, 0);
        load(x, 0, 50, 10, 1000, 100, 0, 0, 0, 0, 0, Check.NONE, 0, 0);
        x.go(2);
        Check.due("shorted", x.load(1, 9), 0);
    }

    private static void scopeArguments() {
        Counted x = new Counted();
        x.go(2);
        for (int what = 0; what < 5; what++) {
            Check.due("scope(-1, ..)", x.scope(-1, what), Check.INVALID);
            Check.due("scope(least, ..)", x.scope(Integer.MIN_VALUE, what), Check.INVALID);
            Check.due("scope(2, ..)", x.scope(2, what), Check.NONE);
            Check.due("scope(greatest, ..)", x.scope(Integer.MAX_VALUE, what), Check.NONE);
        }
        for (int what : new int[] {Integer.MIN_VALUE, -1, 5, Integer.MAX_VALUE}) {
            Check.due("scope(0, " + what + ")", x.scope(0, what), Check.INVALID);
            Check.due("scope(50, " + what + ")", x.scope(50, what), Check.INVALID);
        }
    }

    private static void scope(Counted x, int back, int... want) {
        for (int what = 0; what < want.length; what++) {
            Check.due("scope(" + back + ", " + what + ")", x.scope(back, what), want[what]);
        }
    }

    private static void scope() {
        Counted x = new Counted();
        x.set(1, 0);
        x.setLoad(0, 2, 80);
        x.setLoad(1, 2, 120);
        x.chop(0, 1);
        x.chop(1, 1);
        Check.commands(x, 1, 2, 2, 1);
        x.go(3);
        scope(x, 2, 0, 40, -40, 1 + 2 * 3 + 2 * 9 + 27, 0);
        scope(x, 1, 1, 80, -80, 1 + 2 * 3 + 2 * 9 + 27, 1);
        scope(x, 0, 2, 20, -120, 2 * 3 + 2 * 9 + 27, 3);
        x.command(2, 0);
        x.command(3, 2);
        x.go(1);
        // The leg 2 is held at low, the new command of the leg 3.
        scope(x, 0, 3, 0, -60, 2 * 3 + 2 * 9, 3);
        scope(x, 3, 0, 40, -40, 1 + 2 * 3 + 2 * 9 + 27, 0);
    }

    private static void scopeKeepsTheLatest() {
        Counted x = new Counted();
        x.setLoad(0, 1, 0);
        Check.commands(x, 1, 2, 0, 0);
        for (int slots = 1; slots <= 70; slots++) {
            x.go(1);
            Check.due("count(2)", x.count(2), Math.min(slots, 32));
            int oldest = Math.min(slots, 32) - 1;
            Check.due("oldest slot", x.scope(oldest, 0), slots - 1 - oldest);
            Check.due("its current", x.scope(oldest, 1), 50 * (slots - oldest));
            Check.due("none before it", x.scope(oldest + 1, 0), Check.NONE);
        }
        x.go(1000);
        Check.due("latest slot", x.scope(0, 0), 1069);
        Check.due("oldest slot", x.scope(31, 0), 1038);
    }
}
