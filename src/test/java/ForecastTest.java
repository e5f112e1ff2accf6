import java.util.Map;

/** Promises 14 and 15: until and ifGo. */
public final class ForecastTest {
    public static void main(String[] args) {
        arguments();
        until();
        untilTheLastSlot();
        ifGo();
        nothingChanges();
        theLimitOfSlotsIsNone();
        Check.end();
    }

    private static void arguments() {
        Counted x = new Counted();
        for (int wrong : new int[] {Integer.MIN_VALUE, -1, 2, Integer.MAX_VALUE}) {
            Check.due("until(" + wrong + ", 5)", x.until(wrong, 5), Check.INVALID);
            Check.due("ifGo(" + wrong + ", 5)", x.ifGo(wrong, 5), Check.INVALID);
        }
        for (int wrong : new int[] {Integer.MIN_VALUE, -1, 0, 1000001, Integer.MAX_VALUE}) {
            Check.due("until(0, " + wrong + ")", x.until(0, wrong), Check.INVALID);
        }
        for (int wrong : new int[] {Integer.MIN_VALUE, -1, 0, 1001, Integer.MAX_VALUE}) {
            Check.due("ifGo(0, " + wrong + ")", x.ifGo(0, wrong), Check.INVALID);
        }
        Check.due("until(1, 1)", x.until(1, 1), Check.NONE);
        Check.due("until(1, 1000000)", x.until(1, 1000000), Check.NONE);
        Check.due("ifGo(1, 1)", x.ifGo(1, 1), 0);
        Check.due("ifGo(1, 1000)", x.ifGo(1, 1000), 0);
    }

    private static void until() {
        Counted x = new Counted();
        Check.commands(x, 1, 2, 2, 1);
        Check.due("until(0, 1)", x.until(0, 1), 1);
        Check.due("until(0, 40)", x.until(0, 40), 1);
        Check.due("until(0, 41)", x.until(0, 41), 2);
        Check.due("until(1, 400), the other way", x.until(1, 400), 10);
        x.go(10);
        Check.due("already", x.until(0, 400), 0);
        Check.due("one more", x.until(0, 401), 1);
        Check.due("already, the other way", x.until(1, 400), 0);
        x.set(4, 1000000000);
        // The trip of 5000 turns the legs off, so that no more can come.
        Check.due("until the trip", x.until(0, 5000), 115);
        Check.due("not beyond it", x.until(0, 5001), Check.NONE);
        x.set(0, 5);
        x.command(0, 2);
        x.command(1, 1);
        // 400 falls by 60 in each of five dead slots, to 100, and then goes down by 50, at last to -40.
        Check.due("through 0 to the other way", x.until(0, 401), 5 + 1 + 1 + 1 + 10);
    }

    private static void untilTheLastSlot() {
        Counted x = new Counted();
        x.set(2, 1000000);
        x.set(4, 1000000000);
        x.set(5, 1000000);
        x.setLoad(0, 1, 0);
        Check.commands(x, 1, 2, 0, 0);
        Check.due("in 1000 slots", x.until(0, 50000), 1000);
        Check.due("in 1001 slots", x.until(0, 50001), Check.NONE);
        Check.due("current then", x.ifGo(0, 1000), 50000);
    }

    private static void ifGo() {
        Counted x = new Counted();
        x.set(1, 0);
        x.setLoad(1, 2, 100);
        x.setLoad(1, 3, 50);
        x.chop(1, 1);
        Check.commands(x, 1, 2, 2, 1);
        // Held at -120; let go at 0, when the leg 2 has been off for two slots.
        int[] want = {-40, -80, -120, -60, 0, -40, -80};
        for (int slots = 1; slots <= want.length; slots++) {
            Check.due("ifGo(1, " + slots + ")", x.ifGo(1, slots), want[slots - 1]);
        }
        Check.due("ifGo(0, 7)", x.ifGo(0, 7), 280);
        int foretold = x.ifGo(1, 777);
        x.go(777);
        Check.due("as foretold", x.load(1, 4), foretold);
    }

    private static void nothingChanges() {
        Counted x = new Counted();
        Check.commands(x, 1, 2, 2, 1);
        x.chop(0, 1);
        x.go(50);
        Map<String, Long> before = Check.look(x);
        x.ifGo(0, 1000);
        x.ifGo(1, 3);
        x.until(0, 4000);
        x.until(1, 1000000);
        Check.same("behind until and ifGo", Check.look(x), before);
        Check.due("undo", x.undo(), 3);
        Check.due("slot", x.count(0), 0);
    }

    private static void theLimitOfSlotsIsNone() {
        Counted x = new Counted();
        for (int time = 0; time < 100; time++) {
            x.go(1000);
        }
        Check.commands(x, 1, 2, 0, 0);
        Check.due("go at the limit", x.go(1), Check.LIMIT);
        Check.due("ifGo at the limit", x.ifGo(0, 10), 400);
        Check.due("until at the limit", x.until(0, 400), 10);
        Check.due("slot", x.count(0), 100000);
    }
}
