/** The boundary cases of "Legs, dead slots" and of "Loads", sentence by sentence. */
public final class LegBoundsTest {
    public static void main(String[] args) {
        wishIsState();
        wishIsOff();
        asManySlotsAsDeadSlots();
        backToItsOwnState();
        oneBehindTheOther();
        slotsBeforeTheFirstStateDoNotCount();
        neverHighOrLow();
        neverOnComesBackWithUndo();
        otherwiseOff();
        noDeadSlots();
        deadSlotsAreReadInEachSlot();
        slotsSinceOn();
        drivesOfAllStates();
        droopNotBeyondZero();
        droopOfZeroCurrent();
        growthThroughZero();
        noDriveNotBeyondZero();
        shortedFallsByTheDroopAlone();
        asFarAsTheHeatLetsIt();
        Check.end();
    }

    private static void states(String told, Counted x, int leg, int... want) {
        for (int slot = 0; slot < want.length; slot++) {
            x.go(1);
            Check.due(told + ", leg " + leg + ", slot " + slot, x.leg(leg, 1), want[slot]);
        }
    }

    /** "a leg whose wish is its state stays as it is" */
    private static void wishIsState() {
        for (int leg = 0; leg < 4; leg++) {
            for (int state = 0; state <= 2; state++) {
                Counted x = new Counted();
                x.set(0, 20);
                x.command(leg, state);
                for (int slots = 1; slots <= 25; slots++) {
                    x.go(1);
                    Check.due("it stays " + state, x.leg(leg, 1), state);
                }
                Check.due("switchings", x.leg(leg, 4), state == 0 ? 0 : 1);
                Check.due("slots in " + state, x.leg(leg, state == 0 ? 7 : 4 + state), 25);
                for (int other = 0; other < 4; other++) {
                    Check.due("the other legs", x.leg(other, 1), other == leg ? state : 0);
                }
            }
        }
    }

    /** "a leg whose wish is off is off", "(a leg whose wish is off is off at once)" */
    private static void wishIsOff() {
        for (int state = 1; state <= 2; state++) {
            for (int dead : new int[] {0, 1, 20}) {
                Counted x = new Counted();
                x.set(0, dead);
                x.command(1, state);
                states("on", x, 1, state);
                x.command(1, 0);
                Check.due("still on before the slot", x.leg(1, 1), state);
                states("off at once", x, 1, 0, 0);
            }
        }
    }

    /** "gets it in this slot if it was off in at least as many slots, one behind the other up to the one before this" */
    private static void asManySlotsAsDeadSlots() {
        for (int dead = 0; dead <= 20; dead++) {
            for (int off = Math.max(0, dead - 2); off <= dead + 2; off++) {
                Counted x = new Counted();
                x.set(0, dead);
                x.command(2, 1);
                x.go(3);
                if (off > 0) {
                    x.command(2, 0);
                    x.go(off);
                }
                x.command(2, 2);
                for (int slot = off; slot < dead; slot++) {
                    states("off in " + slot + " of " + dead, x, 2, 0);
                }
                states("off in " + Math.max(off, dead) + " of " + dead, x, 2, 2, 2);
                Check.due("slots off", x.leg(2, 7), Math.max(off, dead));
            }
        }
    }

    private static void backToItsOwnState() {
        for (int state = 1; state <= 2; state++) {
            Counted x = new Counted();
            x.set(0, 3);
            x.command(0, state);
            x.go(1);
            x.command(0, 0);
            x.go(1);
            x.command(0, state);
            states("back to " + state, x, 0, 0, 0, state);
            Check.due("switchings", x.leg(0, 4), 3);
            // A wish that goes and comes back between two slots is no wish at all.
            x.command(0, 3 - state);
            x.command(0, state);
            states("stays", x, 0, state);
        }
    }

    /** "one behind the other": the slots of an earlier pause are not added. */
    private static void oneBehindTheOther() {
        Counted x = new Counted();
        x.set(0, 1);
        x.command(3, 1);
        states("on", x, 3, 1);
        x.command(3, 2);
        states("one dead slot", x, 3, 0, 2);
        x.set(0, 2);
        x.command(3, 1);
        states("two dead slots", x, 3, 0, 0, 1);
        x.set(0, 4);
        x.command(3, 2);
        states("four dead slots", x, 3, 0, 0, 0, 0, 2);
        Check.due("slots off", x.leg(3, 7), 7);
    }

    private static void slotsBeforeTheFirstStateDoNotCount() {
        Counted x = new Counted();
        x.go(30);
        x.command(0, 1);
        states("on at once", x, 0, 1);
        x.command(0, 2);
        states("two dead slots all the same", x, 0, 0, 0, 2);
    }

    /** "or was never high or low" */
    private static void neverHighOrLow() {
        for (int leg = 0; leg < 4; leg++) {
            for (int before = 0; before <= 3; before++) {
                for (int state = 1; state <= 2; state++) {
                    Counted x = new Counted();
                    x.set(0, 20);
                    if (before > 0) {
                        x.go(before);
                    }
                    x.command(leg, state);
                    states("never on, " + before + " slots off", x, leg, state);
                }
            }
        }
        // Once it was high, it is no more a leg that never was on: low, too, comes behind the dead slots.
        Counted x = new Counted();
        x.set(0, 5);
        x.command(0, 1);
        x.command(1, 2);
        x.go(1);
        x.command(0, 0);
        x.command(1, 0);
        x.go(1);
        x.command(0, 2);
        x.command(1, 1);
        states("was high", x, 0, 0, 0, 0);
        Check.due("was low", x.leg(1, 1), 0);
        states("was high", x, 0, 0, 2);
        Check.due("was low", x.leg(1, 1), 1);
    }

    private static void neverOnComesBackWithUndo() {
        Counted x = new Counted();
        x.set(0, 20);
        x.command(1, 1);
        x.go(1);
        Check.due("on", x.leg(1, 1), 1);
        x.undo();
        x.go(2);
        Check.due("on at once", x.leg(1, 5), 2);
        x.undo();
        x.undo();
        x.command(1, 2);
        states("never on again", x, 1, 2);
    }

    /** "otherwise it is off in this slot" */
    private static void otherwiseOff() {
        for (int dead : new int[] {1, 2, 20}) {
            Counted x = new Counted();
            x.set(0, dead);
            x.command(0, 2);
            x.go(1);
            x.command(0, 1);
            states("off with " + dead + " dead slots", x, 0, 0);
            Check.due("switchings", x.leg(0, 4), 2);
            Check.due("its wish", x.leg(0, 2), 1);
            if (dead > 1) {
                // Given up while it is dead: the slots off so far count.
                x.command(0, 2);
                for (int slot = 1; slot < dead; slot++) {
                    states("still dead", x, 0, 0);
                }
                states("low again", x, 0, 2);
            }
        }
    }

    /** "(So with 0 dead slots it changes from high to low from one slot to the next.)" */
    private static void noDeadSlots() {
        Counted x = new Counted();
        x.set(0, 0);
        for (int slot = 0; slot < 10; slot++) {
            x.command(2, 1 + slot % 2);
            x.command(3, 2 - slot % 2);
            x.go(1);
            Check.due("leg 2", x.leg(2, 1), 1 + slot % 2);
            Check.due("leg 3", x.leg(3, 1), 2 - slot % 2);
            Check.due("switchings", x.leg(2, 4), slot + 1);
        }
        Check.due("never off", x.leg(2, 7), 0);
        Check.due("high", x.leg(2, 5), 5);
        Check.due("low", x.leg(2, 6), 5);
    }

    private static void deadSlotsAreReadInEachSlot() {
        Counted x = new Counted();
        x.set(0, 20);
        x.command(0, 1);
        x.go(1);
        x.command(0, 2);
        states("20 dead slots", x, 0, 0, 0, 0);
        x.set(0, 4);
        states("4 dead slots, 3 gone", x, 0, 0);
        states("4 dead slots, 4 gone", x, 0, 2);
        x.command(0, 1);
        states("off", x, 0, 0, 0);
        x.set(0, 0);
        states("no dead slots any more", x, 0, 1);
    }

    /** leg, what 3: "slots since it was high or low last (0 if it is now; if it never was, all slots)" */
    private static void slotsSinceOn() {
        Counted x = new Counted();
        Check.due("no slot has gone by", x.leg(0, 3), 0);
        x.go(1);
        Check.due("never on", x.leg(0, 3), 1);
        x.go(999);
        Check.due("never on", x.leg(0, 3), 1000);
        x.command(0, 1);
        Check.due("the command alone", x.leg(0, 3), 1000);
        x.go(1);
        Check.due("on now", x.leg(0, 3), 0);
        x.go(5);
        Check.due("on still", x.leg(0, 3), 0);
        x.command(0, 0);
        Check.due("on, the command is off", x.leg(0, 3), 0);
        x.go(1);
        Check.due("one slot", x.leg(0, 3), 1);
        x.go(1);
        Check.due("two slots", x.leg(0, 3), 2);
        x.command(0, 2);
        x.go(1);
        Check.due("low now", x.leg(0, 3), 0);
        Check.due("the other leg", x.leg(1, 3), 1009);
    }

    /** "1 if its first leg is high and its second one low, -1 .., 0 if both are high or both are low, and none if a leg is off" */
    private static void drivesOfAllStates() {
        int[][] drives = {{Check.NONE, Check.NONE, Check.NONE}, {Check.NONE, 0, 1}, {Check.NONE, -1, 0}};
        for (int first = 0; first <= 2; first++) {
            for (int second = 0; second <= 2; second++) {
                for (int load = 0; load <= 1; load++) {
                    Counted x = new Counted();
                    x.command(2 * load, first);
                    x.command(2 * load + 1, second);
                    Check.due("no slot has gone by", x.load(load, 9), Check.NONE);
                    x.go(2);
                    int drive = drives[first][second];
                    boolean drives0 = drive == 1 || drive == -1;
                    Check.due("drive of " + first + second, x.load(load, 9), drive);
                    Check.due("driven slots of " + first + second, x.load(load, 11), drives0 ? 2 : 0);
                    Check.due("current of " + first + second, x.load(load, 4), drives0 ? 80 * drive : 0);
                    Check.due("the other load's drive", x.load(1 - load, 9), Check.NONE);
                    Check.due("the other load's current", x.load(1 - load, 4), 0);
                }
            }
        }
    }

    /** A load 0 with this current, without dead slots, its legs driving that way. */
    private static Counted flowing(int current) {
        Counted x = new Counted();
        x.set(0, 0);
        x.setLoad(0, 0, Math.abs(current));
        x.setLoad(0, 1, 0);
        drive(x, current > 0 ? 1 : -1);
        x.go(1);
        Check.due("flowing", x.load(0, 4), current);
        return x;
    }

    private static void drive(Counted x, int drive) {
        x.command(0, drive > 0 ? 1 : 2);
        x.command(1, drive > 0 ? 2 : 1);
    }

    /** "if it is above 0, becomes less by droop, but not below 0, or, if it is below 0, grows by droop, but not above 0" */
    private static void droopNotBeyondZero() {
        for (int sign = -1; sign <= 1; sign += 2) {
            for (int step : new int[] {1, 2, 50, 99, 100}) {
                for (int droop : new int[] {step - 1, step, step + 1}) {
                    if (droop <= 100) {
                        Counted x = new Counted();
                        x.setLoad(0, 0, step);
                        x.setLoad(0, 1, droop);
                        drive(x, sign);
                        x.go(1);
                        Check.due("step " + step + ", droop " + droop, x.load(0, 4), sign * Math.max(0, step - droop));
                        x.go(1);
                        Check.due("and again", x.load(0, 4), sign * Math.max(0, 2 * (step - droop)));
                    }
                }
            }
        }
    }

    /** Neither above 0 nor below it, so the droop does nothing. */
    private static void droopOfZeroCurrent() {
        Counted x = new Counted();
        x.setLoad(0, 1, 100);
        x.go(1);
        Check.due("no drive", x.load(0, 4), 0);
        Check.commands(x, 1, 1, 2, 2);
        x.go(1);
        Check.due("both high", x.load(0, 4), 0);
        Check.due("both low", x.load(1, 4), 0);
        for (int sign = -1; sign <= 1; sign += 2) {
            x = flowing(sign * 50);
            x.setLoad(0, 1, 10);
            drive(x, -sign);
            x.go(1);
            Check.due("50 against 50", x.load(0, 4), 0);
        }
    }

    /** The current grows first, and what comes of it goes toward 0 from its own side. */
    private static void growthThroughZero() {
        for (int sign = -1; sign <= 1; sign += 2) {
            int[] droops = {0, 10, 19, 20, 21, 100};
            int[] want = {-20, -10, -1, 0, 0, 0};
            for (int k = 0; k < droops.length; k++) {
                Counted x = flowing(sign * 30);
                x.setLoad(0, 0, 50);
                x.setLoad(0, 1, droops[k]);
                drive(x, -sign);
                x.go(1);
                Check.due("30 against 50, droop " + droops[k], x.load(0, 4), sign * want[k]);
            }
            Counted x = flowing(sign * 60);
            x.setLoad(0, 0, 50);
            x.setLoad(0, 1, 9);
            drive(x, -sign);
            x.go(1);
            Check.due("60 against 50, droop 9", x.load(0, 4), sign);
            x.undo();
            x.setLoad(0, 1, 11);
            x.go(1);
            Check.due("60 against 50, droop 11", x.load(0, 4), 0);
        }
    }

    /** "If the drive is none, it goes toward 0 by step and droop together, but not beyond 0." */
    private static void noDriveNotBeyondZero() {
        for (int sign = -1; sign <= 1; sign += 2) {
            for (int off = 0; off <= 1; off++) {
                for (int left = -2; left <= 2; left++) {
                    Counted x = flowing(sign * 100);
                    x.setLoad(0, 0, 60);
                    x.setLoad(0, 1, 40 - left);
                    x.command(off, 0);
                    x.go(1);
                    Check.due("100 by 60 and " + (40 - left), x.load(0, 4), sign * Math.max(0, left));
                    Check.due("no drive", x.load(0, 9), Check.NONE);
                    x.go(1);
                    Check.due("then 0", x.load(0, 4), 0);
                }
            }
        }
    }

    private static void shortedFallsByTheDroopAlone() {
        for (int sign = -1; sign <= 1; sign += 2) {
            for (int side = 1; side <= 2; side++) {
                Counted x = flowing(sign * 100);
                x.setLoad(0, 1, 49);
                x.command(0, side);
                x.command(1, side);
                int[] want = {51, 2, 0, 0};
                for (int slot = 0; slot < want.length; slot++) {
                    x.go(1);
                    Check.due("shorted, slot " + slot, x.load(0, 4), sign * want[slot]);
                    Check.due("drive", x.load(0, 9), 0);
                }
            }
        }
    }

    /**
     * "What comes of all this is cut to -1000000 to 1000000": so far no current comes, as the heat
     * turns the legs off before; but nothing is cut as far as it comes.
     */
    private static void asFarAsTheHeatLetsIt() {
        for (int sign = -1; sign <= 1; sign += 2) {
            Counted x = new Counted();
            x.set(2, 1000000);
            x.set(4, 1000000000);
            x.set(5, 1000000);
            x.setLoad(0, 1, 0);
            x.setLoad(0, 0, 680);
            drive(x, sign);
            x.go(1);
            x.setLoad(0, 0, 1000);
            Check.due("not hot", x.go(149), 0);
            Check.due("current", x.load(0, 4), sign * 149680);
            Check.due("hot", x.go(1), 1);
            Check.due("the greatest current", x.load(0, 4), sign * 150680);
            Check.due("it falls now", x.ifGo(0, 1), sign * 149680);
            Check.due("it is the greatest", x.until(0, 150681), Check.NONE);
        }
    }
}
