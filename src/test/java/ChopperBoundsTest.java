/** The boundary cases of "Choppers", with the blanking of their eyes, sentence by sentence. */
public final class ChopperBoundsTest {
    public static void main(String[] args) {
        atLeastTheLevel();
        atMostLevelMinusHysteresis();
        betweenBothNothingChanges();
        theLowestLevel();
        hysteresisBeyondTheLevel();
        heldInTheNextSlots();
        heldFollowsTheCommand();
        offLooksAtNothing();
        turnedOffHoldsNothing();
        blankingSlots();
        blankedEyeDoesNotHold();
        blankedEyeDoesNotLetGo();
        blankedByEachSwitching();
        blankedForJustSoMany();
        notBlankedAtAll();
        theSettingAloneBlanksNothing();
        blankedThoughTheChopperIsOff();
        heldSlots();
        Check.end();
    }

    /** A load that grows by 1 in each slot and never falls while it is shorted; no dead slots, no blanking. */
    private static Counted slow(int load, int sign) {
        Counted x = new Counted();
        x.set(0, 0);
        x.set(1, 0);
        x.setLoad(load, 0, 1);
        x.setLoad(load, 1, 0);
        drive(x, load, sign);
        return x;
    }

    private static void drive(Counted x, int load, int sign) {
        x.command(2 * load, sign > 0 ? 1 : 2);
        x.command(2 * load + 1, sign > 0 ? 2 : 1);
    }

    private static void held(String told, Counted x, int load, int size, int want) {
        Check.due(told + ": the size", Math.abs(x.load(load, 4)), size);
        Check.due(told + " at " + size + ": held", x.load(load, 7), want);
    }

    /** "if its size is at least the level, the load is held" */
    private static void atLeastTheLevel() {
        for (int load = 0; load <= 1; load++) {
            for (int sign = -1; sign <= 1; sign += 2) {
                for (int level : new int[] {2, 3, 77}) {
                    Counted x = slow(load, sign);
                    x.setLoad(load, 2, level);
                    x.setLoad(load, 3, 1);
                    x.chop(load, 1);
                    x.go(level - 1);
                    held("level " + level, x, load, level - 1, 0);
                    x.go(1);
                    held("level " + level, x, load, level, 1);
                    x.go(5);
                    held("level " + level + ", shorted", x, load, level, 1);
                    Check.due("the other load", x.load(1 - load, 7), 0);
                }
            }
        }
        Counted x = slow(0, 1);
        x.setLoad(0, 0, 13);
        x.setLoad(0, 2, 25);
        x.chop(0, 1);
        x.go(1);
        held("level 25", x, 0, 13, 0);
        x.go(1);
        held("above the level 25", x, 0, 26, 1);
    }

    /** "otherwise, if its size is at most level - hysteresis, it is not held (any more)" */
    private static void atMostLevelMinusHysteresis() {
        for (int sign = -1; sign <= 1; sign += 2) {
            for (int hysteresis : new int[] {1, 2, 10, 19, 20}) {
                Counted x = slow(0, sign);
                x.setLoad(0, 2, 20);
                x.setLoad(0, 3, hysteresis);
                x.chop(0, 1);
                x.go(20);
                held("hysteresis " + hysteresis, x, 0, 20, 1);
                x.setLoad(0, 1, 1);
                if (hysteresis > 1) {
                    x.go(hysteresis - 1);
                    held("hysteresis " + hysteresis, x, 0, 20 - hysteresis + 1, 1);
                }
                x.go(1);
                held("hysteresis " + hysteresis, x, 0, 20 - hysteresis, 0);
            }
            // With a hysteresis of 0 the level itself still holds, as it is asked first.
            Counted x = slow(0, sign);
            x.setLoad(0, 2, 20);
            x.setLoad(0, 3, 0);
            x.chop(0, 1);
            x.go(19);
            held("hysteresis 0", x, 0, 19, 0);
            x.go(1);
            held("hysteresis 0", x, 0, 20, 1);
            x.go(3);
            held("hysteresis 0", x, 0, 20, 1);
            x.setLoad(0, 1, 1);
            x.go(1);
            held("hysteresis 0", x, 0, 19, 0);
        }
    }

    private static void betweenBothNothingChanges() {
        Counted x = slow(0, 1);
        x.setLoad(0, 2, 20);
        x.setLoad(0, 3, 10);
        x.chop(0, 1);
        for (int size = 1; size <= 19; size++) {
            x.go(1);
            held("not held from below", x, 0, size, 0);
        }
        x.go(1);
        held("held", x, 0, 20, 1);
        // The level is set anew: what is between both stays held, what is below both is let go.
        x.setLoad(0, 2, 29);
        x.go(1);
        held("held between both", x, 0, 20, 1);
        x.setLoad(0, 2, 30);
        x.go(1);
        held("below both", x, 0, 20, 0);
    }

    /** "a level (1 to ..": the eye of a level of 1 holds a load with the least current. */
    private static void theLowestLevel() {
        Counted x = slow(0, 1);
        x.setLoad(0, 2, 1);
        x.setLoad(0, 3, 1);
        x.chop(0, 1);
        x.command(1, 1);
        x.go(2);
        held("level 1", x, 0, 0, 0);
        x.command(1, 2);
        x.go(1);
        held("level 1", x, 0, 1, 1);
        x.setLoad(0, 1, 1);
        x.go(1);
        held("level 1, hysteresis 1", x, 0, 0, 0);
    }

    private static void hysteresisBeyondTheLevel() {
        for (int hysteresis : new int[] {21, 22, 900000}) {
            Counted x = slow(0, 1);
            x.setLoad(0, 2, 20);
            x.setLoad(0, 3, hysteresis);
            x.chop(0, 1);
            x.go(20);
            x.setLoad(0, 1, 100);
            x.go(10);
            held("hysteresis " + hysteresis, x, 0, 0, 1);
            x.setLoad(0, 3, 20);
            x.go(1);
            held("hysteresis 20", x, 0, 0, 0);
        }
    }

    /** "in the next slots": in its own slot the holding does nothing to the legs. */
    private static void heldInTheNextSlots() {
        Counted x = slow(0, 1);
        x.setLoad(0, 2, 3);
        x.setLoad(0, 3, 1);
        x.chop(0, 1);
        x.go(3);
        Check.due("held", x.load(0, 7), 1);
        Check.due("the slot itself was driven", x.load(0, 9), 1);
        Check.due("leg 0 is high", x.leg(0, 1), 1);
        Check.due("leg 0 wishes low", x.leg(0, 2), 2);
        Check.due("leg 0 has its command", x.leg(0, 0), 1);
        x.setLoad(0, 1, 1);
        x.go(1);
        Check.due("shorted", x.load(0, 9), 0);
        Check.due("leg 0 is low", x.leg(0, 1), 2);
        Check.due("let go", x.load(0, 7), 0);
        Check.due("leg 0 wishes high", x.leg(0, 2), 1);
        x.go(1);
        Check.due("driven", x.load(0, 9), 1);
    }

    /** "the wish of the first leg is the command of its second leg .., otherwise its own command" */
    private static void heldFollowsTheCommand() {
        for (int load = 0; load <= 1; load++) {
            Counted x = slow(load, 1);
            x.setLoad(load, 2, 3);
            x.setLoad(load, 3, 0);
            x.chop(load, 1);
            x.go(3);
            for (int own = 0; own <= 2; own++) {
                for (int second = 0; second <= 2; second++) {
                    x.command(2 * load, own);
                    x.command(2 * load + 1, second);
                    Check.due("held: the first leg", x.leg(2 * load, 2), second);
                    Check.due("held: the second leg", x.leg(2 * load + 1, 2), second);
                    x.chop(load, 0);
                    Check.due("not held: the first leg", x.leg(2 * load, 2), own);
                    Check.due("not held: the second leg", x.leg(2 * load + 1, 2), second);
                    x.undo();
                }
            }
            Check.due("the other load's first leg", x.leg(2 - 2 * load, 2), 0);
        }
    }

    private static void offLooksAtNothing() {
        Counted x = slow(1, -1);
        x.setLoad(1, 2, 1);
        x.go(50);
        held("a chopper that is off", x, 1, 50, 0);
        x.chop(0, 1);
        x.go(1);
        held("the other one is on", x, 1, 51, 0);
        x.chop(1, 1);
        held("on, but no slot has gone by", x, 1, 51, 0);
        x.go(1);
        held("on", x, 1, 52, 1);
    }

    /** "A chopper that is turned off holds nothing, and turned on again it holds nothing at first." */
    private static void turnedOffHoldsNothing() {
        Counted x = slow(0, 1);
        x.setLoad(0, 2, 10);
        x.setLoad(0, 3, 5);
        x.chop(0, 1);
        x.go(10);
        held("on", x, 0, 10, 1);
        Check.due("chop(0, 0)", x.chop(0, 0), 1);
        held("off", x, 0, 10, 0);
        Check.due("chop(0, 1)", x.chop(0, 1), 0);
        held("on again", x, 0, 10, 0);
        Check.due("leg 0 wishes high", x.leg(0, 2), 1);
        // Between both limits, so that nothing but the eye's own look would hold it.
        x.setLoad(0, 2, 12);
        x.go(1);
        held("between both", x, 0, 11, 0);
        x.go(1);
        held("at the level", x, 0, 12, 1);
        x.undo();
        held("undone", x, 0, 11, 0);
    }

    /** "is blanked for the blanking slots .., beginning with this slot" */
    private static void blankingSlots() {
        for (int blanking : new int[] {0, 1, 2, 3, 49, 50}) {
            for (int sign = -1; sign <= 1; sign += 2) {
                Counted x = slow(0, sign);
                x.set(1, blanking);
                x.set(2, 1);
                x.setLoad(0, 2, 1);
                x.chop(0, 1);
                for (int slot = 1; slot <= blanking; slot++) {
                    x.go(1);
                    Check.due("blanked in " + slot + " of " + blanking, x.load(0, 8), blanking - slot);
                    held("blanked", x, 0, slot, 0);
                    Check.due("no fault", x.load(0, 10), 0);
                }
                Check.due("over current behind " + blanking, x.go(1), 1);
                Check.due("not blanked any more", x.load(0, 8), 0);
                held("not blanked", x, 0, blanking + 1, 1);
                Check.due("its slot", x.fault(0, 0, 1), blanking);
            }
        }
    }

    private static void blankedEyeDoesNotHold() {
        Counted x = slow(0, 1);
        x.set(1, 4);
        x.setLoad(0, 2, 3);
        x.chop(0, 1);
        x.go(2);
        held("below the level", x, 0, 2, 0);
        x.go(1);
        held("at the level, blanked", x, 0, 3, 0);
        x.go(1);
        held("above the level, blanked for the last time", x, 0, 4, 0);
        x.go(1);
        held("not blanked", x, 0, 5, 1);
    }

    private static void blankedEyeDoesNotLetGo() {
        Counted x = slow(0, 1);
        x.setLoad(0, 2, 10);
        x.setLoad(0, 3, 3);
        x.chop(0, 1);
        x.go(10);
        held("held", x, 0, 10, 1);
        x.set(1, 4);
        x.setLoad(0, 1, 2);
        // The first leg becomes low in the next slot, so that the eye is blanked in four slots.
        x.go(1);
        held("blanked", x, 0, 8, 1);
        x.go(1);
        held("below both, blanked", x, 0, 6, 1);
        x.go(2);
        held("blanked for the last time", x, 0, 2, 1);
        Check.due("no more", x.load(0, 8), 0);
        x.go(1);
        held("let go", x, 0, 0, 0);
    }

    /** "When the state of a leg of a load becomes another one in a slot" */
    private static void blankedByEachSwitching() {
        for (int leg = 0; leg < 4; leg++) {
            int load = leg / 2;
            Counted x = new Counted();
            x.set(0, 2);
            x.set(1, 2);
            int[] commands = {1, 1, 1, 0, 0, 2, 2, 1, 1, 1, 1, 1, 2, 0, 0};
            int[] states = {1, 1, 1, 0, 0, 2, 2, 0, 0, 1, 1, 1, 0, 0, 0};
            int[] blanked = {1, 0, 0, 1, 0, 1, 0, 1, 0, 1, 0, 0, 1, 0, 0};
            for (int slot = 0; slot < commands.length; slot++) {
                x.command(leg, commands[slot]);
                Check.due("a command alone blanks nothing", x.load(load, 8), slot == 0 ? 0 : blanked[slot - 1]);
                x.go(1);
                Check.due("state in slot " + slot, x.leg(leg, 1), states[slot]);
                Check.due("blanked in slot " + slot, x.load(load, 8), blanked[slot]);
                Check.due("the other load", x.load(1 - load, 8), 0);
            }
        }
        // Straight from high to low, and both legs in one slot.
        Counted x = new Counted();
        x.set(0, 0);
        x.command(0, 1);
        x.command(1, 2);
        x.go(5);
        Check.due("not blanked", x.load(0, 8), 0);
        x.command(0, 2);
        x.go(1);
        Check.due("from high to low", x.load(0, 8), 2);
        x.go(2);
        Check.due("not blanked", x.load(0, 8), 0);
        x.command(0, 1);
        x.command(1, 1);
        x.go(1);
        Check.due("both in one slot", x.load(0, 8), 2);
    }

    /** "for just so many from then on, also if it was blanked for longer" */
    private static void blankedForJustSoMany() {
        Counted x = slow(0, 1);
        x.set(1, 50);
        x.setLoad(0, 2, 1);
        x.chop(0, 1);
        x.go(1);
        Check.due("for 50", x.load(0, 8), 49);
        x.set(1, 3);
        x.command(1, 1);
        x.go(1);
        Check.due("for 3", x.load(0, 8), 2);
        x.go(2);
        held("blanked", x, 0, 1, 0);
        x.go(1);
        held("not blanked", x, 0, 1, 1);
        // And for longer, if it was blanked for less.
        x = slow(0, 1);
        x.set(1, 2);
        x.go(1);
        x.set(1, 10);
        x.command(1, 1);
        x.go(1);
        Check.due("for 10", x.load(0, 8), 9);
        // And for as many again, if it switches in its last blanked slot.
        x.go(8);
        Check.due("for one more", x.load(0, 8), 1);
        x.command(1, 2);
        x.go(1);
        Check.due("for 10 again", x.load(0, 8), 9);
    }

    /** "or not at all with 0" */
    private static void notBlankedAtAll() {
        Counted x = slow(0, 1);
        x.set(1, 50);
        x.set(2, 1);
        x.setLoad(0, 2, 1);
        x.chop(0, 1);
        Check.due("blanked", x.go(1), 0);
        held("blanked", x, 0, 1, 0);
        x.set(1, 0);
        x.command(1, 1);
        Check.due("over current is seen in the slot of the switching", x.go(1), 1);
        held("the eye looks in it too", x, 0, 1, 1);
        Check.due("not blanked", x.load(0, 8), 0);
    }

    private static void theSettingAloneBlanksNothing() {
        Counted x = slow(0, 1);
        x.set(1, 5);
        x.go(1);
        Check.due("for 5", x.load(0, 8), 4);
        x.set(1, 50);
        Check.due("set to 50", x.load(0, 8), 4);
        x.go(1);
        Check.due("set to 50", x.load(0, 8), 3);
        x.set(1, 0);
        x.go(1);
        Check.due("set to 0", x.load(0, 8), 2);
        x.go(2);
        Check.due("at its end", x.load(0, 8), 0);
        x.set(1, 50);
        x.go(1);
        Check.due("behind its end", x.load(0, 8), 0);
    }

    /** "so it is, whether the chopper is on or off" */
    private static void blankedThoughTheChopperIsOff() {
        Counted x = slow(1, 1);
        x.set(1, 3);
        x.set(2, 1);
        for (int left = 2; left >= 0; left--) {
            Check.due("no fault", x.go(1), 0);
            Check.due("blanked", x.load(1, 8), left);
        }
        Check.due("over current", x.go(1), 1);
        // Turned on while it is blanked already.
        x = slow(1, 1);
        x.set(1, 3);
        x.setLoad(1, 2, 1);
        x.go(1);
        x.chop(1, 1);
        Check.due("chop blanks nothing anew", x.load(1, 8), 2);
        x.go(2);
        held("blanked", x, 1, 3, 0);
        x.go(1);
        held("not blanked", x, 1, 4, 1);
    }

    /** count, what 4: "for both loads together, slots in which the load was held as the legs got their states" */
    private static void heldSlots() {
        Counted x = slow(0, 1);
        x.setLoad(0, 2, 5);
        x.setLoad(0, 3, 2);
        x.chop(0, 1);
        x.go(4);
        Check.due("not held", x.count(4), 0);
        x.go(1);
        Check.due("held behind the slot, not before it", x.count(4), 0);
        x.go(1);
        Check.due("held before the slot", x.count(4), 1);
        x.setLoad(0, 1, 2);
        x.go(1);
        Check.due("let go behind the slot", x.load(0, 7), 0);
        Check.due("held before it", x.count(4), 2);
        x.go(1);
        Check.due("not held any more", x.count(4), 2);
        x = slow(0, 1);
        x.setLoad(1, 0, 1);
        x.setLoad(1, 1, 0);
        drive(x, 1, -1);
        for (int load = 0; load <= 1; load++) {
            x.setLoad(load, 2, 2);
            x.chop(load, 1);
        }
        x.go(2);
        x.go(10);
        Check.due("both held in ten slots", x.count(4), 20);
        x.chop(0, 0);
        x.go(1);
        Check.due("one held", x.count(4), 21);
    }
}
