/** Promises 7 and 12: clear and fault, and how faults are seen and latched. */
public final class FaultTest {
    private static final int OVER = 0;
    private static final int OPEN = 1;
    private static final int HOT = 2;

    public static void main(String[] args) {
        arguments();
        overCurrent();
        overCurrentOnlyWhileNotBlanked();
        open();
        openBothWays();
        openAndHotWhileBlanked();
        hot();
        legsAreOffWhileLatched();
        heldGoesOnWhileLatched();
        latchedAgain();
        order();
        orderOfOneSlot();
        loadsAreApart();
        Check.end();
    }

    private static void fault(Counted x, int load, int fault, int... want) {
        for (int what = 0; what < want.length; what++) {
            Check.due("fault(" + load + ", " + fault + ", " + what + ")", x.fault(load, fault, what), want[what]);
        }
    }

    private static void notLatched(Counted x, int load, int fault) {
        fault(x, load, fault, 0, Check.NONE, Check.NONE, Check.NONE, 0);
    }

    private static void arguments() {
        Counted x = new Counted();
        int[] extremes = {Integer.MIN_VALUE, -1, Integer.MAX_VALUE};
        for (int wrong : extremes) {
            Check.due("clear(" + wrong + ", 0)", x.clear(wrong, 0), Check.INVALID);
            Check.due("clear(0, " + wrong + ")", x.clear(0, wrong), Check.INVALID);
            Check.due("fault(" + wrong + ", 0, 0)", x.fault(wrong, 0, 0), Check.INVALID);
            Check.due("fault(0, " + wrong + ", 1)", x.fault(0, wrong, 1), Check.INVALID);
            Check.due("fault(0, 0, " + wrong + ")", x.fault(0, 0, wrong), Check.INVALID);
        }
        Check.due("clear(2, 0)", x.clear(2, 0), Check.INVALID);
        Check.due("clear(0, 3)", x.clear(0, 3), Check.INVALID);
        Check.due("fault(2, 0, 0)", x.fault(2, 0, 0), Check.INVALID);
        Check.due("fault(0, 3, 0)", x.fault(0, 3, 0), Check.INVALID);
        Check.due("fault(0, 0, 5)", x.fault(0, 0, 5), Check.INVALID);
        for (int load = 0; load < 2; load++) {
            for (int fault = 0; fault < 3; fault++) {
                Check.due("clear of none", x.clear(load, fault), Check.IMPOSSIBLE);
                notLatched(x, load, fault);
            }
        }
        Check.due("errors are no changes", x.count(5), 0);
    }

    private static void overCurrent() {
        Counted x = new Counted();
        x.set(1, 0);
        x.set(2, 120);
        Check.commands(x, 1, 2, 0, 0);
        Check.due("below the trip", x.go(2), 0);
        notLatched(x, 0, OVER);
        Check.due("at the trip", x.go(1), 1);
        fault(x, 0, OVER, 1, 2, 120, 0, 0);
        Check.due("count(1)", x.count(1), 1);
        Check.due("load(0, 10)", x.load(0, 10), 1);
        Check.due("cause is there", x.clear(0, OVER), Check.IMPOSSIBLE);
        x.set(2, 121);
        fault(x, 0, OVER, 1, 2, 120, 0, 1);
        x.set(2, 120);
        fault(x, 0, OVER, 1, 2, 120, 0, 0);
        x.go(1);
        fault(x, 0, OVER, 1, 2, 120, 0, 1);
        int before = (int) x.count(5);
        Check.due("four states", before, 4);
        Check.due("cleared", x.clear(0, OVER), 0);
        notLatched(x, 0, OVER);
        Check.due("not cleared twice", x.clear(0, OVER), Check.IMPOSSIBLE);
        Check.due("legs wish on again", x.leg(0, 2), 1);
        x.undo();
        fault(x, 0, OVER, 1, 2, 120, 0, 1);
        x = new Counted();
        x.set(1, 0);
        x.set(2, 120);
        Check.commands(x, 0, 0, 2, 1);
        Check.due("the other way", x.go(3), 1);
        fault(x, 1, OVER, 1, 2, -120, 0, 0);
    }

    private static void overCurrentOnlyWhileNotBlanked() {
        Counted x = new Counted();
        x.set(2, 40);
        Check.commands(x, 1, 2, 0, 0);
        Check.due("blanked", x.go(3), 0);
        Check.due("not blanked any more", x.go(1), 1);
        fault(x, 0, OVER, 1, 3, 160, 0, 0);
        x = new Counted();
        x.set(1, 1);
        x.set(2, 40);
        Check.commands(x, 1, 2, 0, 0);
        Check.due("blanked for its own slot", x.go(1), 0);
        Check.due("blanked for no more", x.go(1), 1);
    }

    private static Counted opened(int first, int second) {
        Counted x = new Counted();
        x.setLoad(0, 1, 100);
        Check.commands(x, first, second, 0, 0);
        return x;
    }

    private static void open() {
        Counted x = opened(1, 2);
        Check.due("19 slots", x.go(19), 0);
        Check.due("driven run", x.load(0, 11), 19);
        Check.due("20 slots", x.go(1), 1);
        fault(x, 0, OPEN, 1, 19, 0, 0, 1);
        Check.due("open is always clearable", x.clear(0, OPEN), 0);
        Check.due("and latched again", x.go(1), 1);
        fault(x, 0, OPEN, 1, 20, 0, 0, 1);
        x = opened(1, 2);
        x.setLoad(0, 1, 1);
        // 49 in the first slot and 98 in the next: not open.
        x.set(3, 2);
        Check.due("current flows", x.go(100), 0);
        x = new Counted();
        x.setLoad(0, 1, 0);
        x.set(3, 2);
        x.setLoad(0, 0, 100);
        Check.commands(x, 1, 2, 0, 0);
        x.go(1);
        x.setLoad(0, 0, 1);
        x.setLoad(0, 1, 1);
        Check.due("100 is not less than the step 1", x.go(1), 0);
        x.setLoad(0, 0, 100);
        x.setLoad(0, 1, 100);
        Check.due("100 is not less than the step 100", x.go(1), 0);
        x.setLoad(0, 0, 101);
        x.setLoad(0, 1, 100);
        Check.due("101 is not less than the step 101", x.go(1), 0);
        x.setLoad(0, 0, 99);
        Check.due("100 is not less than 99", x.go(1), 0);
        x.go(1);
        Check.due("99 at the end", x.load(0, 4), 99);
        notLatched(x, 0, OPEN);
        x.setLoad(0, 0, 100);
        Check.due("99 and the step 100", x.ifGo(0, 1), 99);
        Check.due("99 is less than the step 100", x.go(1), 1);
        fault(x, 0, OPEN, 1, 6, 99, 0, 1);
        x = opened(1, 1);
        Check.due("a drive of 0", x.go(100), 0);
    }

    private static void openBothWays() {
        Counted x = opened(1, 2);
        x.set(0, 0);
        x.set(3, 4);
        x.go(2);
        Check.commands(x, 2, 1, 0, 0);
        Check.due("driven run the other way", x.load(0, 11), 2);
        Check.due("3 slots", x.go(1), 0);
        Check.due("4 slots, two each way", x.go(1), 1);
        x = opened(1, 2);
        x.set(0, 0);
        x.set(3, 3);
        x.go(2);
        x.command(1, 1);
        x.go(1);
        Check.due("broken", x.load(0, 11), 0);
        x.command(1, 2);
        Check.due("anew", x.go(2), 0);
        Check.due("three", x.go(1), 1);
        x = opened(1, 2);
        x.go(10);
        x.set(3, 5);
        Check.due("open slots are those of now", x.go(1), 1);
    }

    private static void openAndHotWhileBlanked() {
        Counted x = opened(1, 2);
        x.set(1, 50);
        Check.due("open", x.go(20), 1);
        Check.due("blanked", x.load(0, 8), 30);
        x = new Counted();
        x.set(1, 50);
        x.set(2, 1);
        x.set(4, 1);
        x.set(5, 0);
        Check.commands(x, 1, 2, 0, 0);
        Check.due("40 * 40 / 1000 is 1", x.go(1), 1);
        fault(x, 0, HOT, 1, 0, 40, 0, 0);
        notLatched(x, 0, OVER);
    }

    private static void hot() {
        Counted x = new Counted();
        x.setLoad(0, 0, 1000);
        x.setLoad(0, 1, 0);
        x.set(2, 1000000);
        x.set(4, 5000);
        x.set(5, 0);
        Check.commands(x, 1, 2, 0, 0);
        Check.due("1000 of 5000", x.go(1), 0);
        Check.due("5000 of 5000", x.go(1), 1);
        fault(x, 0, HOT, 1, 1, 2000, 0, 0);
        Check.due("too hot", x.clear(0, HOT), Check.IMPOSSIBLE);
        x.set(4, 9999);
        Check.due("half of it is 4999", x.clear(0, HOT), Check.IMPOSSIBLE);
        fault(x, 0, HOT, 1, 1, 2000, 0, 0);
        x.set(4, 10000);
        fault(x, 0, HOT, 1, 1, 2000, 0, 1);
        Check.due("half of it is 5000", x.clear(0, HOT), 0);
        notLatched(x, 0, HOT);
    }

    private static void legsAreOffWhileLatched() {
        Counted x = opened(1, 2);
        x.set(3, 2);
        x.go(2);
        Check.due("latched", x.load(0, 10), 1);
        Check.due("leg 0 is still high", x.leg(0, 1), 1);
        Check.due("leg 0 wishes off", x.leg(0, 2), 0);
        Check.due("leg 1 wishes off", x.leg(1, 2), 0);
        Check.due("the command stays", x.leg(1, 0), 2);
        x.command(2, 1);
        Check.due("the other load is free", x.leg(2, 2), 1);
        x.go(1);
        Check.due("leg 0 is off", x.leg(0, 1), 0);
        Check.due("leg 1 is off", x.leg(1, 1), 0);
        Check.due("leg 2 is high", x.leg(2, 1), 1);
        Check.due("no drive", x.load(0, 9), Check.NONE);
        x.clear(0, OPEN);
        Check.due("leg 1 wishes low", x.leg(1, 2), 2);
        x.go(1);
        Check.due("still dead", x.leg(1, 1), 0);
        x.go(1);
        Check.due("low again", x.leg(1, 1), 2);
    }

    private static void heldGoesOnWhileLatched() {
        Counted x = new Counted();
        x.set(1, 0);
        x.set(2, 120);
        x.setLoad(0, 2, 120);
        x.setLoad(0, 3, 100);
        x.chop(0, 1);
        Check.commands(x, 1, 2, 0, 0);
        Check.due("trip and level in one slot", x.go(3), 1);
        Check.due("held", x.load(0, 7), 1);
        Check.due("wishes off all the same", x.leg(0, 2), 0);
        x.go(1);
        Check.due("60", x.load(0, 4), 60);
        Check.due("held by its eye", x.load(0, 7), 1);
        Check.due("held slots", x.count(4), 1);
        x.go(1);
        Check.due("0", x.load(0, 4), 0);
        Check.due("let go by its eye", x.load(0, 7), 0);
        Check.due("held slots at last", x.count(4), 2);
        Check.due("still latched", x.count(1), 1);
    }

    private static void latchedAgain() {
        Counted x = new Counted();
        x.set(1, 0);
        x.set(2, 100);
        Check.commands(x, 1, 2, 0, 0);
        x.go(3);
        fault(x, 0, OVER, 1, 2, 120, 0, 0);
        x.setLoad(0, 0, 1);
        x.setLoad(0, 1, 0);
        // Seen again in each slot, but latched already.
        Check.due("latched once", x.go(5), 0);
        fault(x, 0, OVER, 1, 2, 120, 0, 0);
        x.set(2, 1000);
        x.clear(0, OVER);
        x.set(2, 100);
        Check.due("latched anew", x.go(1), 1);
        fault(x, 0, OVER, 1, 8, 116, 0, 0);
    }

    private static void order() {
        Counted x = new Counted();
        x.set(1, 0);
        x.set(2, 500);
        x.set(4, 40);
        x.set(5, 0);
        x.setLoad(0, 0, 500);
        x.setLoad(0, 1, 100);
        Check.commands(x, 1, 2, 0, 0);
        Check.due("hot at 400", x.go(1), 1);
        fault(x, 0, HOT, 1, 0, 400, 0, 0);
        x.clear(0, HOT);
        x.set(4, 1000000000);
        x.clear(0, HOT);
        x.set(4, 40);
        x.set(2, 300);
        x.setLoad(0, 1, 0);
        Check.due("over and hot in one slot", x.go(1), 2);
        fault(x, 0, OVER, 1, 1, 900, 0, 0);
        fault(x, 0, HOT, 1, 1, 900, 1, 0);
        x.set(4, 1000000000);
        fault(x, 0, HOT, 1, 1, 900, 1, 0);
        Check.due("hot is not the first", x.clear(0, HOT), Check.IMPOSSIBLE);
        x.set(2, 901);
        fault(x, 0, OVER, 1, 1, 900, 0, 1);
        Check.due("over is the first", x.clear(0, OVER), 1);
        fault(x, 0, HOT, 1, 1, 900, 0, 1);
        Check.due("then hot", x.clear(0, HOT), 0);
        x = new Counted();
        x.set(1, 0);
        x.set(4, 1);
        x.set(5, 0);
        x.setLoad(0, 0, 100);
        Check.commands(x, 1, 2, 0, 0);
        Check.due("hot first", x.go(1), 1);
        x.set(2, 1);
        x.setLoad(0, 0, 1);
        x.setLoad(0, 1, 0);
        Check.due("over current later", x.go(1), 1);
        fault(x, 0, HOT, 1, 0, 90, 0, 0);
        fault(x, 0, OVER, 1, 1, 89, 1, 0);
        x.set(2, 1000);
        Check.due("over current is not the first", x.clear(0, OVER), Check.IMPOSSIBLE);
        fault(x, 0, OVER, 1, 1, 89, 1, 0);
        x.set(4, 1000000000);
        Check.due("hot is the first", x.clear(0, HOT), 1);
        fault(x, 0, OVER, 1, 1, 89, 0, 1);
        Check.due("over current then", x.clear(0, OVER), 0);
        Check.due("none", x.count(1), 0);
    }

    private static void orderOfOneSlot() {
        Counted x = new Counted();
        x.set(1, 0);
        x.set(3, 2);
        x.set(2, 1000000);
        x.set(4, 1000000000);
        x.set(5, 0);
        x.setLoad(0, 0, 100);
        x.setLoad(0, 1, 40);
        Check.commands(x, 1, 2, 0, 0);
        x.go(1);
        Check.due("60", x.load(0, 4), 60);
        x.setLoad(0, 1, 100);
        x.set(2, 60);
        x.set(4, 6);
        Check.due("all three in one slot", x.go(1), 3);
        fault(x, 0, OVER, 1, 1, 60, 0, 0);
        fault(x, 0, OPEN, 1, 1, 60, 1, 0);
        fault(x, 0, HOT, 1, 1, 60, 2, 0);
        Check.due("three are latched", x.load(0, 10), 3);
        x.set(2, 61);
        Check.due("open is not the first", x.clear(0, OPEN), Check.IMPOSSIBLE);
        Check.due("over current", x.clear(0, OVER), 2);
        fault(x, 0, OPEN, 1, 1, 60, 0, 1);
        fault(x, 0, HOT, 1, 1, 60, 1, 0);
        Check.due("hot is not the first", x.clear(0, HOT), Check.IMPOSSIBLE);
        Check.due("legs wish off while one is latched", x.leg(0, 2), 0);
        Check.due("open", x.clear(0, OPEN), 1);
        Check.due("hot is hot", x.clear(0, HOT), Check.IMPOSSIBLE);
        x.set(4, 12);
        Check.due("hot", x.clear(0, HOT), 0);
        Check.due("legs wish on", x.leg(0, 2), 1);
    }

    private static void loadsAreApart() {
        Counted x = new Counted();
        x.set(1, 0);
        x.set(2, 40);
        Check.commands(x, 1, 2, 2, 1);
        Check.due("one of each load", x.go(1), 2);
        fault(x, 0, OVER, 1, 0, 40, 0, 0);
        fault(x, 1, OVER, 1, 0, -40, 0, 0);
        Check.due("both", x.count(1), 2);
        x.set(2, 41);
        Check.due("cleared of load 1", x.clear(1, OVER), 0);
        fault(x, 0, OVER, 1, 0, 40, 0, 1);
        notLatched(x, 1, OVER);
        Check.due("one", x.count(1), 1);
        Check.due("load(0, 10)", x.load(0, 10), 1);
        Check.due("load(1, 10)", x.load(1, 10), 0);
    }
}
