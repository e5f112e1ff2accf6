/** Promise 6, go: legs with dead slots, currents, choppers, blanking, heat. */
public final class SlotTest {
    public static void main(String[] args) {
        arguments();
        limitOfSlots();
        deadSlots();
        deadSlotsOfAnyNumber();
        wishOffIsOffAtOnce();
        drives();
        currentTowardZero();
        smallestCurrents();
        currentAsFarAsItGoes();
        chopperHolds();
        hysteresis();
        heldFollowsSecondLeg();
        blanking();
        blankingIsSetAnew();
        heat();
        loadsAreApart();
        Check.end();
    }

    private static void arguments() {
        Counted x = new Counted();
        for (int slots : new int[] {0, -1, 1001, Integer.MIN_VALUE, Integer.MAX_VALUE}) {
            Check.due("go(" + slots + ")", x.go(slots), Check.INVALID);
        }
        Check.due("wrong ones are no changes", x.count(5), 0);
        Check.due("no slot has gone by", x.count(0), 0);
        Check.due("go(1)", x.go(1), 0);
        Check.due("go(1000)", x.go(1000), 0);
        Check.due("1001 slots", x.count(0), 1001);
        Check.due("two changes", x.count(5), 2);
    }

    private static void limitOfSlots() {
        Counted x = new Counted();
        for (int time = 0; time < 99; time++) {
            Check.due("go(1000)", x.go(1000), 0);
        }
        x.go(999);
        Check.due("go(2) at 99999", x.go(2), Check.LIMIT);
        Check.due("go(1001) at 99999", x.go(1001), Check.INVALID);
        Check.due("still 99999", x.count(0), 99999);
        Check.due("go(1) at 99999", x.go(1), 0);
        Check.due("at the limit", x.count(0), 100000);
        Check.due("go(1) at the limit", x.go(1), Check.LIMIT);
        Check.due("go(0) at the limit", x.go(0), Check.INVALID);
        Check.due("all slots off", x.leg(3, 7), 100000);
        x.undo();
        Check.due("the limit is no change", x.count(0), 99999);
    }

    private static void states(Counted x, int leg, String want) {
        for (int slot = 0; slot < want.length(); slot++) {
            x.go(1);
            Check.due("state of leg " + leg + " in slot " + slot + " of " + want, x.leg(leg, 1), want.charAt(slot) - '0');
        }
    }

    private static void deadSlots() {
        Counted x = new Counted();
        x.command(0, 1);
        states(x, 0, "11");
        x.command(0, 2);
        states(x, 0, "0022");
        Check.due("switchings", x.leg(0, 4), 3);
        x.command(0, 0);
        states(x, 0, "0");
        x.command(0, 2);
        // Its own old state, too, comes back only behind the dead slots.
        states(x, 0, "022");
        x.command(0, 0);
        states(x, 0, "00");
        x.command(0, 1);
        states(x, 0, "1");
        // A leg that never was on gets its wish at once, also late.
        x.command(1, 2);
        states(x, 1, "2");
    }

    private static void deadSlotsOfAnyNumber() {
        Counted x = new Counted();
        x.set(0, 0);
        x.command(2, 1);
        states(x, 2, "1");
        x.command(2, 2);
        states(x, 2, "22");
        Check.due("changed at once", x.leg(2, 4), 2);
        Check.due("was never off", x.leg(2, 7), 0);
        x.set(0, 1);
        x.command(2, 1);
        states(x, 2, "01");
        x.set(0, 20);
        x.command(2, 2);
        states(x, 2, "000000000000000000002");
        // The dead slots that count are those set when the slot goes by.
        x.command(2, 1);
        states(x, 2, "000");
        x.set(0, 3);
        states(x, 2, "1");
        // The wish may change while the leg is dead.
        x.command(2, 2);
        states(x, 2, "00");
        x.command(2, 1);
        states(x, 2, "01");
    }

    private static void wishOffIsOffAtOnce() {
        Counted x = new Counted();
        x.command(3, 2);
        states(x, 3, "2");
        x.command(3, 0);
        states(x, 3, "00");
        Check.due("low in", x.leg(3, 6), 1);
        Check.due("off in", x.leg(3, 7), 2);
        Check.due("high in", x.leg(3, 5), 0);
        Check.due("since on", x.leg(3, 3), 2);
    }

    private static void drive(int first, int second, int drive, int current) {
        Counted x = new Counted();
        Check.commands(x, first, second, first, second);
        x.go(1);
        for (int load = 0; load < 2; load++) {
            String legs = "legs " + first + second + " of load " + load;
            Check.due("drive, " + legs, x.load(load, 9), drive);
            Check.due("current, " + legs, x.load(load, 4), current);
            Check.due("driven run, " + legs, x.load(load, 11), drive == 1 || drive == -1 ? 1 : 0);
        }
    }

    private static void drives() {
        drive(1, 2, 1, 40);
        drive(2, 1, -1, -40);
        drive(1, 1, 0, 0);
        drive(2, 2, 0, 0);
        drive(0, 0, Check.NONE, 0);
        drive(0, 1, Check.NONE, 0);
        drive(2, 0, Check.NONE, 0);
    }

    private static void currents(Counted x, int... want) {
        for (int slot = 0; slot < want.length; slot++) {
            x.go(1);
            Check.due("current of load 0, " + slot + " of " + java.util.Arrays.toString(want), x.load(0, 4), want[slot]);
        }
    }

    private static void currentTowardZero() {
        Counted x = new Counted();
        Check.commands(x, 1, 2, 0, 0);
        currents(x, 40, 80, 120);
        x.command(1, 0);
        currents(x, 60, 0, 0);
        x.command(1, 2);
        currents(x, 40, 80);
        x.setLoad(0, 1, 45);
        x.set(0, 0);
        x.command(0, 2);
        currents(x, 35, 0, 0);
        x.command(1, 1);
        currents(x, -5, -10, -15);
        // From above 0 to below 0 in one slot the droop goes toward 0 from below.
        x.command(0, 1);
        x.command(1, 2);
        currents(x, 0, 5);
        x.setLoad(0, 1, 10);
        x.command(0, 2);
        x.command(1, 1);
        currents(x, -35, -75);
        x.command(0, 0);
        currents(x, -15, 0, 0);
        x.setLoad(0, 1, 0);
        x.command(0, 1);
        x.command(1, 2);
        currents(x, 50, 100);
        x.command(1, 1);
        currents(x, 100, 100);
    }

    private static void smallestCurrents() {
        for (int sign = -1; sign <= 1; sign += 2) {
            Counted x = new Counted();
            x.setLoad(0, 0, 1);
            x.setLoad(0, 1, 0);
            Check.commands(x, sign > 0 ? 1 : 2, sign > 0 ? 2 : 1, 0, 0);
            currents(x, sign, sign * 2, sign * 3);
            x.command(1, 0);
            currents(x, sign * 2, sign, 0, 0);
            x.command(1, sign > 0 ? 2 : 1);
            currents(x, sign);
            x.setLoad(0, 1, 1);
            currents(x, sign, sign);
            x.setLoad(0, 1, 2);
            currents(x, 0, 0);
        }
    }

    /** The cut at 1000000 itself is out of reach: the heat turns the legs off long before. */
    private static void currentAsFarAsItGoes() {
        for (int sign = -1; sign <= 1; sign += 2) {
            Counted x = new Counted();
            x.set(2, 1000000);
            x.set(4, 1000000000);
            x.set(5, 1000000);
            x.setLoad(0, 0, 1000);
            x.setLoad(0, 1, 0);
            Check.commands(x, sign > 0 ? 1 : 2, sign > 0 ? 2 : 1, 0, 0);
            Check.due("not hot", x.go(149), 0);
            Check.due("149 slots", x.load(0, 4), sign * 149000);
            Check.due("heat", x.load(0, 5), 985359000);
            Check.due("hot", x.go(1), 1);
            Check.due("falls", x.ifGo(0, 10), sign * 140000);
        }
    }

    /** Without blanking and dead slots; held at 120, the leg 0 follows the leg 1. */
    private static Counted chopped() {
        Counted x = new Counted();
        x.set(0, 0);
        x.set(1, 0);
        x.setLoad(0, 2, 120);
        x.setLoad(0, 3, 30);
        x.chop(0, 1);
        Check.commands(x, 1, 2, 0, 0);
        return x;
    }

    private static void chopperHolds() {
        Counted x = chopped();
        currents(x, 40, 80);
        Check.due("not held below the level", x.load(0, 7), 0);
        currents(x, 120);
        Check.due("held at the level", x.load(0, 7), 1);
        Check.due("the first leg wishes low", x.leg(0, 2), 2);
        Check.due("its command stays", x.leg(0, 0), 1);
        Check.due("held slots so far", x.count(4), 0);
        currents(x, 110, 100);
        Check.due("held above level - hysteresis", x.load(0, 7), 1);
        Check.due("shorted", x.load(0, 9), 0);
        currents(x, 90);
        Check.due("not held at level - hysteresis", x.load(0, 7), 0);
        Check.due("held as the legs got their states", x.count(4), 3);
        currents(x, 130);
        Check.due("held again", x.load(0, 7), 1);
        Check.due("held slots", x.count(4), 3);
    }

    private static void hysteresis() {
        Counted x = chopped();
        x.setLoad(0, 3, 0);
        currents(x, 40, 80, 120, 110);
        Check.due("let go below the level", x.load(0, 7), 0);
        x = chopped();
        x.setLoad(0, 3, 120);
        x.go(14);
        Check.due("at 10", x.load(0, 4), 10);
        Check.due("held above 0", x.load(0, 7), 1);
        x.go(1);
        Check.due("let go at 0", x.load(0, 7), 0);
        x = chopped();
        x.setLoad(0, 3, 121);
        x.go(100);
        Check.due("at 0", x.load(0, 4), 0);
        Check.due("never let go", x.load(0, 7), 1);
        x = chopped();
        Check.commands(x, 2, 1, 0, 0);
        currents(x, -40, -80, -120);
        Check.due("held by the size", x.load(0, 7), 1);
        Check.due("wishes high", x.leg(0, 2), 1);
        currents(x, -110, -100, -90);
        Check.due("let go by the size", x.load(0, 7), 0);
    }

    private static void heldFollowsSecondLeg() {
        Counted x = chopped();
        x.go(3);
        x.command(1, 1);
        Check.due("follows the new command", x.leg(0, 2), 1);
        x.command(1, 0);
        Check.due("follows off", x.leg(0, 2), 0);
        x.go(1);
        Check.due("both are off", x.load(0, 9), Check.NONE);
        Check.due("the second leg follows nothing", x.leg(1, 2), 0);
        Check.due("from 120 by 60", x.load(0, 4), 60);
    }

    private static void blanks(Counted x, int load, int... want) {
        for (int slot = 0; slot < want.length; slot++) {
            x.go(1);
            Check.due("blanked, load " + load + ", " + slot + " of " + java.util.Arrays.toString(want), x.load(load, 8), want[slot]);
        }
    }

    private static void blanking() {
        Counted x = new Counted();
        x.setLoad(0, 2, 40);
        x.chop(0, 1);
        blanks(x, 0, 0);
        x.command(1, 2);
        blanks(x, 0, 2, 1);
        x.command(0, 1);
        blanks(x, 0, 2, 1);
        Check.due("not held while blanked", x.load(0, 7), 0);
        Check.due("above the level", x.load(0, 4), 80);
        blanks(x, 0, 0);
        Check.due("not held in the last blanked slot", x.load(0, 7), 0);
        x.go(1);
        Check.due("held behind it", x.load(0, 7), 1);
        Check.due("the other load is not blanked", x.load(1, 8), 0);
        x = new Counted();
        x.command(3, 1);
        blanks(x, 1, 2, 1, 0, 0);
        x.command(3, 2);
        // It becomes off, and becomes low: blanked anew each time.
        blanks(x, 1, 2, 1, 2, 1, 0);
    }

    private static void blankingIsSetAnew() {
        Counted x = new Counted();
        x.set(1, 50);
        x.command(0, 1);
        blanks(x, 0, 49);
        x.set(1, 2);
        blanks(x, 0, 48);
        x.command(1, 1);
        blanks(x, 0, 1, 0);
        x.set(1, 50);
        x.command(1, 0);
        blanks(x, 0, 49);
        x.set(1, 0);
        x.command(0, 0);
        blanks(x, 0, 0, 0);
        x.set(1, 1);
        x.setLoad(0, 2, 1);
        x.setLoad(0, 1, 0);
        x.chop(0, 1);
        x.set(0, 0);
        Check.commands(x, 1, 2, 0, 0);
        blanks(x, 0, 0);
        Check.due("blanked in the slot itself", x.load(0, 7), 0);
        blanks(x, 0, 0);
        Check.due("and not behind it", x.load(0, 7), 1);
    }

    private static void heat() {
        Counted x = new Counted();
        x.setLoad(0, 0, 1000);
        x.setLoad(0, 1, 0);
        x.set(2, 1000000);
        x.set(4, 1000000000);
        x.set(5, 0);
        Check.commands(x, 1, 2, 0, 0);
        x.go(1);
        Check.due("1000 * 1000 / 1000", x.load(0, 5), 1000);
        x.go(1);
        Check.due("and 4000", x.load(0, 5), 5000);
        x.set(5, 9000);
        x.go(1);
        Check.due("and 9000 - 9000", x.load(0, 5), 5000);
        Check.commands(x, 0, 2, 0, 0);
        x.go(1);
        Check.due("and 4000 - 9000", x.load(0, 5), 0);
        x.go(1);
        Check.due("not below 0", x.load(0, 5), 0);
        x.set(5, 0);
        x.go(1);
        Check.due("current 0", x.load(0, 5), 0);
        Check.due("no heat in load 1", x.load(1, 5), 0);
        // Squares are divided rounded down: 44 * 44 / 1000 is 1.
        x.setLoad(0, 0, 44);
        x.setLoad(0, 1, 0);
        x.set(0, 0);
        Check.commands(x, 2, 1, 0, 0);
        x.go(1);
        Check.due("44 the other way", x.load(0, 4), -44);
        Check.due("1936 / 1000", x.load(0, 5), 1);
        x = new Counted();
        x.setLoad(0, 0, 1000);
        x.setLoad(0, 1, 0);
        x.set(2, 1000000);
        x.set(4, 1000000000);
        x.set(5, 0);
        Check.commands(x, 1, 2, 0, 0);
        x.go(143);
        // The sum of k * k * 1000 for k up to 143.
        Check.due("143 slots", x.load(0, 5), 984984000);
        Check.due("hot at 1005720000", x.go(1), 1);
        x.undo();
        Check.due("undone", x.load(0, 5), 984984000);
        x.go(1);
        // With a step of 1 the current falls slowly, and the heat goes on growing.
        x.setLoad(0, 0, 1);
        x.go(47);
        Check.due("below the most", x.load(0, 5), 1979987155);
        x.go(2);
        Check.due("at most 2000000000", x.load(0, 5), 2000000000);
        x.set(5, 1000000);
        x.go(1);
        Check.due("still at most", x.load(0, 5), 2000000000);
    }

    private static void loadsAreApart() {
        Counted x = new Counted();
        Check.commands(x, 0, 0, 2, 1);
        x.go(5);
        Check.due("load 0", x.load(0, 4), 0);
        Check.due("load 1", x.load(1, 4), -200);
        Check.due("leg 2", x.leg(2, 1), 2);
        Check.due("leg 3", x.leg(3, 1), 1);
        Check.due("leg 0", x.leg(0, 1), 0);
        Check.due("sum of the sizes", x.count(20), 40 + 80 + 120 + 160 + 200);
        Check.due("driven run", x.load(1, 11), 5);
        Check.due("driven run of load 0", x.load(0, 11), 0);
    }
}
