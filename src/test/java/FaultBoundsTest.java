/** The boundary cases of "Faults" and of the heat, sentence by sentence. */
public final class FaultBoundsTest {
    private static final int OVER = 0;
    private static final int OPEN = 1;
    private static final int HOT = 2;

    public static void main(String[] args) {
        atLeastTheTrip();
        lowestTrip();
        overCurrentWithoutADrive();
        inEachOfTheOpenSlots();
        openBrokenOff();
        openGoesOnThroughBothWays();
        lessThanTheStep();
        atLeastTheHotLimit();
        heatRoundedDown();
        heatNotBelowZero();
        heatAtMost();
        openAndHotWhileBlanked();
        onlyWhatIsNotLatched();
        latchedWithSlotAndCurrent();
        wishesOffWhileLatched();
        wishesOffThoughHeld();
        clearOverCurrent();
        clearOpenAlways();
        clearHot();
        clearInTheOrderOfSlots();
        clearInTheOrderOfNumbers();
        clearedAndLatchedAnewGoesToTheEnd();
        faultsOfGo();
        Check.end();
    }

    /** No dead slots, no blanking, no droop, and limits that nothing reaches. */
    private static Counted quiet(int step) {
        Counted x = new Counted();
        x.set(0, 0);
        x.set(1, 0);
        x.set(2, 1000000);
        x.set(4, 1000000000);
        for (int load = 0; load <= 1; load++) {
            x.setLoad(load, 0, step);
            x.setLoad(load, 1, 0);
        }
        return x;
    }

    private static void drive(Counted x, int load, int sign) {
        x.command(2 * load, sign > 0 ? 1 : 2);
        x.command(2 * load + 1, sign > 0 ? 2 : 1);
    }

    private static void fault(Counted x, int load, int fault, int... want) {
        for (int what = 0; what < want.length; what++) {
            Check.due("fault(" + load + ", " + fault + ", " + what + ")", x.fault(load, fault, what), want[what]);
        }
    }

    private static void notLatched(Counted x, int load, int fault) {
        fault(x, load, fault, 0, Check.NONE, Check.NONE, Check.NONE, 0);
    }

    /** "at the end of a slot, the size of the current is at least the trip" */
    private static void atLeastTheTrip() {
        for (int load = 0; load <= 1; load++) {
            for (int sign = -1; sign <= 1; sign += 2) {
                for (int trip : new int[] {99, 100, 101, 199, 200, 201}) {
                    Counted x = quiet(100);
                    x.set(2, trip);
                    drive(x, load, sign);
                    int due = trip <= 100 ? 0 : trip <= 200 ? 1 : 2;
                    for (int slot = 0; slot < due; slot++) {
                        Check.due("below the trip " + trip, x.go(1), 0);
                        notLatched(x, load, OVER);
                    }
                    Check.due("at least the trip " + trip, x.go(1), 1);
                    fault(x, load, OVER, 1, due, sign * 100 * (due + 1), 0, 0);
                    notLatched(x, 1 - load, OVER);
                }
            }
        }
    }

    /** "a setting from 1": a current of 0 is never over, and one of 1 is. */
    private static void lowestTrip() {
        for (int sign = -1; sign <= 1; sign += 2) {
            Counted x = quiet(1);
            x.set(2, 1);
            Check.due("0 is less than 1", x.go(100), 0);
            drive(x, 0, sign);
            Check.due("1 is at least 1", x.go(1), 1);
            fault(x, 0, OVER, 1, 100, sign, 0, 0);
        }
    }

    /** The current alone counts: not the drive, and not the chopper. */
    private static void overCurrentWithoutADrive() {
        Counted x = quiet(100);
        drive(x, 0, 1);
        x.go(5);
        x.command(0, 0);
        x.set(2, 400);
        Check.due("off, but 400 flow", x.go(1), 1);
        fault(x, 0, OVER, 1, 5, 400, 0, 0);
        x = quiet(100);
        drive(x, 0, 1);
        x.go(5);
        x.command(0, 2);
        x.set(2, 500);
        Check.due("shorted, but 500 flow", x.go(1), 1);
        fault(x, 0, OVER, 1, 5, 500, 0, 0);
    }

    /** A load whose droop is its step, so that no current flows though it is driven. */
    private static Counted opened(int openSlots) {
        Counted x = quiet(100);
        x.set(3, openSlots);
        x.setLoad(0, 1, 100);
        x.setLoad(1, 1, 100);
        return x;
    }

    /** "the drive was 1 or -1 in each of the latest slots, as many as the open slots" (2 to 100) */
    private static void inEachOfTheOpenSlots() {
        for (int load = 0; load <= 1; load++) {
            for (int sign = -1; sign <= 1; sign += 2) {
                for (int openSlots : new int[] {2, 3, 20, 99, 100}) {
                    Counted x = opened(openSlots);
                    x.go(7);
                    drive(x, load, sign);
                    Check.due("one slot less than " + openSlots, x.go(openSlots - 1), 0);
                    Check.due("driven", x.load(load, 11), openSlots - 1);
                    notLatched(x, load, OPEN);
                    Check.due("as many as " + openSlots, x.go(1), 1);
                    Check.due("driven", x.load(load, 11), openSlots);
                    fault(x, load, OPEN, 1, 7 + openSlots - 1, 0, 0, 1);
                    notLatched(x, 1 - load, OPEN);
                }
            }
        }
        Counted x = new Counted();
        x.setLoad(0, 1, 100);
        drive(x, 0, 1);
        Check.due("initially 20", x.go(19), 0);
        Check.due("initially 20", x.go(1), 1);
    }

    /** A slot without a drive, or with the drive 0, breaks them off. */
    private static void openBrokenOff() {
        for (int second = 0; second <= 1; second++) {
            Counted x = opened(3);
            drive(x, 0, 1);
            x.go(2);
            x.command(1, second);
            Check.due("broken off", x.go(1), 0);
            Check.due("driven", x.load(0, 11), 0);
            x.command(1, 2);
            Check.due("anew", x.go(2), 0);
            Check.due("driven", x.load(0, 11), 2);
            Check.due("in each of three", x.go(1), 1);
            fault(x, 0, OPEN, 1, 5, 0, 0, 1);
        }
        Counted x = opened(2);
        Check.commands(x, 1, 1, 2, 2);
        Check.due("a drive of 0 is none of them", x.go(50), 0);
        Check.commands(x, 0, 1, 2, 0);
        Check.due("no drive is none of them", x.go(50), 0);
    }

    private static void openGoesOnThroughBothWays() {
        Counted x = opened(4);
        for (int slot = 0; slot < 3; slot++) {
            drive(x, 0, slot % 2 == 0 ? 1 : -1);
            Check.due("not yet", x.go(1), 0);
        }
        drive(x, 0, -1);
        Check.due("four, both ways", x.go(1), 1);
        fault(x, 0, OPEN, 1, 3, 0, 0, 1);
    }

    /** "and the size of the current is less than the step" */
    private static void lessThanTheStep() {
        for (int sign = -1; sign <= 1; sign += 2) {
            // 50 and 40 more, less the droop: 90 - droop against a step of 40.
            for (int droop = 49; droop <= 52; droop++) {
                Counted x = quiet(50);
                x.set(3, 2);
                drive(x, 0, sign);
                x.go(1);
                x.setLoad(0, 0, 40);
                x.setLoad(0, 1, droop);
                int size = 90 - droop;
                Check.due("size " + size + ", step 40", x.go(1), size < 40 ? 1 : 0);
                Check.due("current", x.load(0, 4), sign * size);
                if (size < 40) {
                    fault(x, 0, OPEN, 1, 1, sign * size, 0, 1);
                } else {
                    notLatched(x, 0, OPEN);
                    Check.due("driven all the same", x.load(0, 11), 2);
                }
            }
        }
        // Driven for longer than the open slots, it is open as soon as the current is too small.
        Counted x = quiet(50);
        x.set(3, 2);
        drive(x, 0, 1);
        Check.due("current flows", x.go(10), 0);
        x.setLoad(0, 0, 1000);
        x.setLoad(0, 1, 100);
        drive(x, 0, -1);
        Check.due("500 - 1000 + 100", x.go(1), 1);
        fault(x, 0, OPEN, 1, 10, -400, 0, 1);
    }

    /** "the heat of the load is at least the hot limit" (1 to 1000000000) */
    private static void atLeastTheHotLimit() {
        for (int load = 0; load <= 1; load++) {
            for (int limit = 999; limit <= 1001; limit++) {
                Counted x = quiet(1000);
                x.set(4, limit);
                x.set(5, 0);
                drive(x, load, 1);
                Check.due("1000 of " + limit, x.go(1), limit <= 1000 ? 1 : 0);
                if (limit <= 1000) {
                    fault(x, load, HOT, 1, 0, 1000, 0, 0);
                } else {
                    notLatched(x, load, HOT);
                    Check.due("5000 of " + limit, x.go(1), 1);
                    fault(x, load, HOT, 1, 1, 2000, 0, 0);
                }
                notLatched(x, 1 - load, HOT);
            }
        }
        Counted x = quiet(32);
        x.set(4, 1);
        x.set(5, 0);
        Check.due("a heat of 0 is less than 1", x.go(10), 0);
        drive(x, 0, -1);
        Check.due("a heat of 1", x.go(1), 1);
        fault(x, 0, HOT, 1, 10, -32, 0, 0);
    }

    /** "heat + (size of the current) * (size of the current) / 1000 - the cooling", divisions "rounded down" */
    private static void heatRoundedDown() {
        int[] steps = {31, 32, 44, 45, 54, 55, 999, 1000};
        int[] heats = {0, 1, 1, 2, 2, 3, 998, 1000};
        for (int k = 0; k < steps.length; k++) {
            for (int sign = -1; sign <= 1; sign += 2) {
                Counted x = quiet(steps[k]);
                x.set(5, 0);
                drive(x, 0, sign);
                x.go(1);
                Check.due("heat of " + steps[k], x.load(0, 5), heats[k]);
                // Rounded in each slot for itself.
                drive(x, 0, -sign);
                x.go(1);
                drive(x, 0, sign);
                x.go(1);
                Check.due("heat of it twice", x.load(0, 5), 2 * heats[k]);
            }
        }
    }

    /** "but not below 0" */
    private static void heatNotBelowZero() {
        for (int cooling = 998; cooling <= 1001; cooling++) {
            Counted x = quiet(1000);
            x.set(5, cooling);
            drive(x, 1, 1);
            x.go(1);
            Check.due("1000 less " + cooling, x.load(1, 5), Math.max(0, 1000 - cooling));
            Check.due("0 less " + cooling, x.load(0, 5), 0);
            x.go(1);
            Check.due("and 4000 less " + cooling, x.load(1, 5), Math.max(0, 1000 - cooling) + 4000 - cooling);
        }
        Counted x = quiet(1000);
        x.set(5, 1000000);
        drive(x, 0, 1);
        x.go(31);
        Check.due("961000 less 1000000", x.load(0, 5), 0);
        x.go(1);
        Check.due("1024000 less 1000000", x.load(0, 5), 24000);
    }

    /** "and at most 2000000000" */
    private static void heatAtMost() {
        Counted x = quiet(1000);
        x.set(5, 0);
        drive(x, 0, 1);
        Check.due("below the hot limit", x.go(143), 0);
        Check.due("hot", x.go(1), 1);
        Check.due("heat", x.load(0, 5), 1005720000);
        // The legs go off; the current of 144000 falls by 1 in each slot, and heats on.
        x.setLoad(0, 0, 1);
        x.go(47);
        Check.due("the last heat below the most", x.load(0, 5), 1979987155);
        x.go(1);
        Check.due("cut to the most", x.load(0, 5), 2000000000);
        x.go(1);
        Check.due("at most", x.load(0, 5), 2000000000);
        x.set(5, 1000000);
        x.go(50);
        Check.due("cooled by less than it heats", x.load(0, 5), 2000000000);
        x.setLoad(0, 0, 1000);
        x.go(113);
        // Now at 30901: it cools by 1000000 - 954871 in the next slot.
        Check.due("current", x.load(0, 4), 30901);
        int before = x.load(0, 5);
        x.go(1);
        Check.due("cooled", x.load(0, 5), before + 29901 * 29901 / 1000 - 1000000);
        Check.due("latched once", x.count(1), 1);
    }

    /** "Open and hot are seen also while the eye is blanked." */
    private static void openAndHotWhileBlanked() {
        Counted x = opened(2);
        x.set(1, 50);
        x.set(2, 1);
        drive(x, 0, 1);
        Check.due("open while blanked", x.go(2), 1);
        fault(x, 0, OPEN, 1, 1, 0, 0, 1);
        Check.due("blanked", x.load(0, 8), 48);
        x = quiet(1000);
        x.set(1, 50);
        x.set(2, 1);
        x.set(4, 1000);
        x.set(5, 0);
        drive(x, 1, 1);
        Check.due("hot while blanked", x.go(1), 1);
        fault(x, 1, HOT, 1, 0, 1000, 0, 0);
        notLatched(x, 1, OVER);
        Check.due("blanked", x.load(1, 8), 49);
    }

    /** "A fault that is seen, and not latched, is latched" */
    private static void onlyWhatIsNotLatched() {
        Counted x = quiet(100);
        x.set(2, 100);
        drive(x, 0, 1);
        Check.due("latched", x.go(1), 1);
        x.setLoad(0, 0, 1);
        for (int slot = 1; slot < 5; slot++) {
            x.set(2, 50);
            Check.due("seen, but latched already", x.go(1), 0);
        }
        fault(x, 0, OVER, 1, 0, 100, 0, 0);
        Check.due("one latched", x.count(1), 1);
        Check.due("one latched", x.load(0, 10), 1);
        Check.due("another one is latched beside it", x.set(4, 1), 1000000000);
        x.set(5, 0);
        x.set(3, 2);
        Check.due("hot", x.go(1), 1);
        Check.due("two latched", x.load(0, 10), 2);
    }

    /** "with the slot (from 0) and the current at its end" */
    private static void latchedWithSlotAndCurrent() {
        for (int slot : new int[] {0, 1, 2, 999}) {
            Counted x = quiet(7);
            x.set(2, 1);
            if (slot > 0) {
                x.go(slot);
            }
            drive(x, 1, -1);
            Check.due("latched", x.go(3), 1);
            fault(x, 1, OVER, 1, slot, -7, 0, 1);
            Check.due("the current is another one by now", x.load(1, 4), 0);
            Check.due("the slots", x.count(0), slot + 3);
        }
    }

    /** "While a fault of a load is latched, the wishes of both its legs are off" */
    private static void wishesOffWhileLatched() {
        for (int load = 0; load <= 1; load++) {
            Counted x = quiet(100);
            x.set(2, 100);
            drive(x, load, 1);
            drive(x, 1 - load, 1);
            x.setLoad(1 - load, 0, 1);
            x.go(1);
            int first = 2 * load;
            Check.due("the slot itself goes by with its states", x.leg(first, 1), 1);
            Check.due("wish of the first leg", x.leg(first, 2), 0);
            Check.due("wish of the second leg", x.leg(first + 1, 2), 0);
            Check.due("command of the first leg", x.leg(first, 0), 1);
            Check.due("command of the second leg", x.leg(first + 1, 0), 2);
            Check.due("wish of the other load's first leg", x.leg(2 - first, 2), 1);
            Check.due("wish of the other load's second leg", x.leg(3 - first, 2), 2);
            x.go(1);
            Check.due("first leg off", x.leg(first, 1), 0);
            Check.due("second leg off", x.leg(first + 1, 1), 0);
            Check.due("the other load is driven", x.load(1 - load, 9), 1);
            x.command(first, 2);
            Check.due("a new command is no wish either", x.leg(first, 2), 0);
            Check.due("cleared", x.clear(load, OVER), 0);
            Check.due("wish of the first leg", x.leg(first, 2), 2);
            Check.due("wish of the second leg", x.leg(first + 1, 2), 2);
        }
    }

    /** "whether it is held or not (it stays held or not by its eye)" */
    private static void wishesOffThoughHeld() {
        Counted x = quiet(100);
        x.set(2, 300);
        x.setLoad(0, 2, 300);
        x.setLoad(0, 3, 200);
        x.chop(0, 1);
        drive(x, 0, 1);
        Check.due("tripped and held in one slot", x.go(3), 1);
        int[] held = {1, 0, 0};
        int[] current = {200, 100, 0};
        int[] slots = {1, 2, 2};
        for (int slot = 0; slot < held.length; slot++) {
            Check.due("wish of the first leg", x.leg(0, 2), 0);
            Check.due("wish of the second leg", x.leg(1, 2), 0);
            x.go(1);
            Check.due("current", x.load(0, 4), current[slot]);
            Check.due("held by its eye", x.load(0, 7), held[slot]);
            Check.due("held slots", x.count(4), slots[slot]);
        }
        // Held at first while it is latched, too.
        x = quiet(100);
        x.set(2, 100);
        x.setLoad(0, 2, 50);
        x.setLoad(0, 3, 0);
        drive(x, 0, 1);
        x.go(1);
        x.setLoad(0, 0, 1);
        x.chop(0, 1);
        x.go(1);
        Check.due("latched and held", x.load(0, 7), 1);
        Check.due("wish of the first leg", x.leg(0, 2), 0);
        x.clear(0, OVER);
        Check.due("held, and not latched", x.leg(0, 2), 2);
    }

    /** "over current if the size of the current is less than the trip" */
    private static void clearOverCurrent() {
        for (int sign = -1; sign <= 1; sign += 2) {
            Counted x = quiet(100);
            x.set(2, 100);
            drive(x, 0, sign);
            x.go(1);
            for (int trip : new int[] {1, 99, 100}) {
                x.set(2, trip);
                fault(x, 0, OVER, 1, 0, sign * 100, 0, 0);
                Check.due("100 and the trip " + trip, x.clear(0, OVER), Check.IMPOSSIBLE);
            }
            for (int trip : new int[] {101, 102, 1000000}) {
                x.set(2, trip);
                fault(x, 0, OVER, 1, 0, sign * 100, 0, 1);
                Check.due("100 and the trip " + trip, x.clear(0, OVER), 0);
                notLatched(x, 0, OVER);
                Check.due("cleared only once", x.clear(0, OVER), Check.IMPOSSIBLE);
                x.undo();
            }
            // By the current itself: 100 goes toward 0 by 1 in each slot.
            x.set(2, 99);
            x.setLoad(0, 0, 1);
            x.go(1);
            Check.due("99 and the trip 99", x.clear(0, OVER), Check.IMPOSSIBLE);
            x.go(1);
            Check.due("98 and the trip 99", x.clear(0, OVER), 0);
        }
        // Blanked or not, the size is asked.
        Counted x = quiet(100);
        x.set(2, 100);
        drive(x, 0, 1);
        x.go(1);
        x.set(1, 50);
        x.setLoad(0, 0, 1);
        x.set(2, 99);
        x.go(1);
        Check.due("blanked", x.load(0, 8), 49);
        Check.due("99 and the trip 99", x.clear(0, OVER), Check.IMPOSSIBLE);
        x.set(2, 100);
        Check.due("99 and the trip 100", x.clear(0, OVER), 0);
    }

    /** "open always" */
    private static void clearOpenAlways() {
        Counted x = opened(2);
        drive(x, 0, 1);
        x.go(2);
        fault(x, 0, OPEN, 1, 1, 0, 0, 1);
        Check.due("still driven without a current", x.load(0, 11), 2);
        Check.due("cleared", x.clear(0, OPEN), 0);
        notLatched(x, 0, OPEN);
        Check.due("seen again in the next slot", x.go(1), 1);
        fault(x, 0, OPEN, 1, 2, 0, 0, 1);
        x.go(1);
        Check.due("not driven any more", x.load(0, 11), 0);
        Check.due("cleared", x.clear(0, OPEN), 0);
        Check.due("not seen", x.go(1), 0);
    }

    /** "hot if the heat is at most the hot limit / 2" */
    private static void clearHot() {
        Counted x = quiet(1000);
        x.set(4, 1000);
        x.set(5, 0);
        drive(x, 0, 1);
        x.go(1);
        Check.due("heat", x.load(0, 5), 1000);
        for (int limit : new int[] {1, 1000, 1001, 1998, 1999}) {
            x.set(4, limit);
            fault(x, 0, HOT, 1, 0, 1000, 0, 0);
            Check.due("1000 of " + limit, x.clear(0, HOT), Check.IMPOSSIBLE);
        }
        for (int limit : new int[] {2000, 2001, 2002, 1000000000}) {
            x.set(4, limit);
            fault(x, 0, HOT, 1, 0, 1000, 0, 1);
            Check.due("1000 of " + limit, x.clear(0, HOT), 0);
            notLatched(x, 0, HOT);
            x.undo();
        }
        // Half of 1 is 0: no heat at all may be left.
        x = quiet(32);
        x.set(4, 1);
        x.set(5, 0);
        drive(x, 0, 1);
        x.go(2);
        Check.due("heat", x.load(0, 5), 1);
        Check.due("1 of 1", x.clear(0, HOT), Check.IMPOSSIBLE);
        x.set(5, 1);
        x.go(1);
        Check.due("heat", x.load(0, 5), 0);
        Check.due("0 of 1", x.clear(0, HOT), 0);
    }

    /** "they are cleared in the order in which they were latched .. : only the first one can be cleared" */
    private static void clearInTheOrderOfSlots() {
        Counted x = opened(2);
        x.set(5, 0);
        x.setLoad(0, 0, 101);
        drive(x, 0, 1);
        Check.due("open in the slot 1", x.go(2), 1);
        x.set(2, 1);
        x.setLoad(0, 0, 1);
        x.setLoad(0, 1, 0);
        Check.due("over current in the slot 2", x.go(1), 1);
        fault(x, 0, OPEN, 1, 1, 2, 0, 1);
        fault(x, 0, OVER, 1, 2, 1, 1, 0);
        x.set(2, 5);
        fault(x, 0, OVER, 1, 2, 1, 1, 0);
        Check.due("over current is the second", x.clear(0, OVER), Check.IMPOSSIBLE);
        Check.due("hot is none", x.clear(0, HOT), Check.IMPOSSIBLE);
        Check.due("open is the first", x.clear(0, OPEN), 1);
        fault(x, 0, OVER, 1, 2, 1, 0, 1);
        Check.due("the wish is off while one is latched", x.leg(0, 2), 0);
        Check.due("over current", x.clear(0, OVER), 0);
        Check.due("the wish", x.leg(0, 2), 1);
    }

    /** "those of one slot by their numbers" */
    private static void clearInTheOrderOfNumbers() {
        Counted x = quiet(100);
        x.set(3, 2);
        x.set(5, 0);
        drive(x, 1, -1);
        x.go(1);
        // From -100 by 1000 up and by the droop down to 800, which is less than the step.
        x.setLoad(1, 0, 1000);
        x.setLoad(1, 1, 100);
        drive(x, 1, 1);
        x.set(2, 800);
        x.set(4, 600);
        Check.due("all three", x.go(1), 3);
        for (int fault = 0; fault <= 2; fault++) {
            fault(x, 1, fault, 1, 1, 800, fault, 0);
        }
        Check.due("latched of the load", x.load(1, 10), 3);
        Check.due("latched of both", x.count(1), 3);
        x.set(2, 801);
        x.set(4, 1000000000);
        Check.due("open is the second", x.clear(1, OPEN), Check.IMPOSSIBLE);
        Check.due("hot is the third", x.clear(1, HOT), Check.IMPOSSIBLE);
        Check.due("of the other load", x.clear(0, OVER), Check.IMPOSSIBLE);
        Check.due("over current", x.clear(1, OVER), 2);
        fault(x, 1, OPEN, 1, 1, 800, 0, 1);
        fault(x, 1, HOT, 1, 1, 800, 1, 0);
        Check.due("hot is the second", x.clear(1, HOT), Check.IMPOSSIBLE);
        Check.due("open", x.clear(1, OPEN), 1);
        Check.due("hot", x.clear(1, HOT), 0);
        Check.due("none", x.clear(1, HOT), Check.IMPOSSIBLE);
        Check.due("none is left", x.count(1), 0);
    }

    private static void clearedAndLatchedAnewGoesToTheEnd() {
        Counted x = quiet(100);
        x.set(2, 100);
        x.set(5, 0);
        drive(x, 0, 1);
        x.go(1);
        x.set(4, 1);
        x.setLoad(0, 0, 1);
        Check.due("hot in the slot 1", x.go(1), 1);
        fault(x, 0, OVER, 1, 0, 100, 0, 1);
        fault(x, 0, HOT, 1, 1, 99, 1, 0);
        Check.due("over current cleared", x.clear(0, OVER), 1);
        x.set(2, 98);
        Check.due("over current in the slot 2", x.go(1), 1);
        fault(x, 0, HOT, 1, 1, 99, 0, 0);
        fault(x, 0, OVER, 1, 2, 98, 1, 0);
        x.set(2, 1000);
        Check.due("over current is the second now", x.clear(0, OVER), Check.IMPOSSIBLE);
        x.set(4, 1000);
        Check.due("hot", x.clear(0, HOT), 1);
        Check.due("over current", x.clear(0, OVER), 0);
    }

    /** go: "Returns how many faults were latched": of both loads, in all its slots. */
    private static void faultsOfGo() {
        Counted x = quiet(100);
        x.set(2, 200);
        x.setLoad(1, 0, 50);
        drive(x, 0, 1);
        drive(x, 1, 1);
        Check.due("one of the load 0", x.ifGo(0, 2), 200);
        Check.due("the load 0 in the slot 1, the load 1 in the slot 3", x.go(10), 2);
        fault(x, 0, OVER, 1, 1, 200, 0, 1);
        fault(x, 1, OVER, 1, 3, 200, 0, 1);
        Check.due("no more", x.go(10), 0);
        // Over current first, and then hot in a later slot of the same call: three in all.
        x = quiet(100);
        x.set(2, 200);
        x.set(4, 100);
        x.set(5, 0);
        x.setLoad(0, 0, 60);
        x.setLoad(1, 0, 50);
        drive(x, 0, 1);
        drive(x, 1, 1);
        Check.due("in many slots", x.go(20), 4);
        fault(x, 0, HOT, 1, 3, 240, 1, 0);
        fault(x, 0, OVER, 1, 3, 240, 0, 1);
        Check.due("of both loads", x.count(1), 4);
        Check.due("of the load 0", x.load(0, 10), 2);
        Check.due("of the load 1", x.load(1, 10), 2);
    }
}
