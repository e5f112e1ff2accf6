import java.util.List;
import java.util.Map;
import java.util.function.Consumer;

/** The boundary cases of the history, of the scope and of the slots: empty, full, and round again. */
public final class HistoryBoundsTest {
    public static void main(String[] args) {
        emptyHistory();
        fullHistory();
        eachChangeRecords();
        changesThatChangeNothing();
        lookingRecordsNothing();
        typingRecordsNothing();
        undoRecordsNothing();
        playIsOneChange();
        everythingButTheText();
        historyGoesRound();
        emptyScope();
        fullScope();
        scopeInOneCall();
        scopeUndone();
        scopeOfStates();
        scopeOfHeldLoads();
        scopeTakesNothingOver();
        totalsUndone();
        theLastCall();
        Check.end();
    }

    /** undo: "NOT_POSSIBLE if it is empty" */
    private static void emptyHistory() {
        Counted x = new Counted();
        Check.due("nothing to undo", x.undo(), Check.IMPOSSIBLE);
        x.command(0, 1);
        Check.due("one state", x.count(5), 1);
        Check.due("undo", x.undo(), 0);
        Check.due("undo of no more", x.undo(), Check.IMPOSSIBLE);
        Check.due("and again", x.undo(), Check.IMPOSSIBLE);
        Check.due("states", x.count(5), 0);
        x.command(0, 2);
        Check.due("one state again", x.count(5), 1);
        Check.due("undo", x.undo(), 0);
        Check.due("command", x.leg(0, 0), 0);
    }

    /** "at most 4 states", "if there are 5 states then, the oldest one is dropped" */
    private static void fullHistory() {
        for (int changes = 1; changes <= 10; changes++) {
            Counted x = new Counted();
            for (int change = 1; change <= changes; change++) {
                x.set(5, change);
                Check.due("states behind " + change, x.count(5), Math.min(change, 4));
            }
            int states = Math.min(changes, 4);
            for (int back = 1; back <= states; back++) {
                Check.due("undo " + back + " of " + changes, x.undo(), states - back);
                int value = changes - back == 0 ? 100 : changes - back;
                Check.due("cooling behind undo " + back + " of " + changes, x.count(15), value);
            }
            Check.due("undo of no more", x.undo(), Check.IMPOSSIBLE);
            Check.due("cooling stays", x.count(15), changes <= 4 ? 100 : changes - 4);
        }
    }

    /** "The changes are the calls of set, setLoad, command, chop, go, clear and play that return no error." */
    private static void eachChangeRecords() {
        List<Consumer<Counted>> changes = List.of(x -> x.set(0, 4), x -> x.setLoad(1, 1, 4), x -> x.command(2, 0),
            x -> x.chop(1, 1), x -> x.go(1), x -> x.clear(1, 0), x -> x.play());
        for (int number = 0; number < changes.size(); number++) {
            Counted x = Check.busy("oooo*2;");
            while (x.count(5) > 2) {
                x.undo();
            }
            Map<String, Long> before = Check.look(x);
            changes.get(number).accept(x);
            Check.due("a state more, change " + number, x.count(5), 3);
            Check.due("undo of change " + number, x.undo(), 2);
            Check.same("undone change " + number, Check.look(x), before);
        }
    }

    /** A change is told by its call and its answer alone, and not by what it does. */
    private static void changesThatChangeNothing() {
        Counted x = new Counted();
        x.set(0, 2);
        Check.due("set to what it is", x.count(5), 1);
        x.setLoad(0, 0, 50);
        Check.due("setLoad to what it is", x.count(5), 2);
        x.command(0, 0);
        Check.due("command as it is", x.count(5), 3);
        x.chop(0, 0);
        Check.due("chop as it is", x.count(5), 4);
        x = new Counted();
        x.play();
        Check.due("play of the empty text", x.count(5), 1);
    }

    private static void lookingRecordsNothing() {
        Counted x = Check.busy("oooo;");
        x.undo();
        Check.look(x);
        x.until(0, 77);
        x.until(1, 1000000);
        x.ifGo(0, 1000);
        Check.due("states", x.count(5), 3);
        Check.due("the slot undone", x.undo(), 2);
    }

    private static void typingRecordsNothing() {
        Counted x = new Counted();
        Check.text(x, "oooo;");
        x.wrong();
        x.playing();
        x.clearText();
        Check.due("states", x.count(5), 0);
        Check.due("nothing to undo", x.undo(), Check.IMPOSSIBLE);
    }

    /** "Restores the latest state of the history, which is removed from it." */
    private static void undoRecordsNothing() {
        Counted x = new Counted();
        x.set(5, 1);
        x.set(5, 2);
        x.set(5, 3);
        Check.due("undo", x.undo(), 2);
        Check.due("states", x.count(5), 2);
        Check.due("cooling", x.count(15), 2);
        x.set(5, 4);
        Check.due("states", x.count(5), 3);
        Check.due("undo", x.undo(), 2);
        Check.due("cooling", x.count(15), 2);
        Check.due("undo", x.undo(), 1);
        Check.due("cooling", x.count(15), 1);
        Check.due("undo", x.undo(), 0);
        Check.due("cooling", x.count(15), 100);
    }

    /** play: "It is one change." */
    private static void playIsOneChange() {
        Counted x = new Counted();
        x.go(3);
        Check.text(x, "hlhl*2;oooo*3;lhlh;====*500;hhhh;llll;");
        Check.due("play()", x.play(), 508);
        Check.due("states", x.count(5), 2);
        Check.due("undo", x.undo(), 1);
        Check.due("slot", x.count(0), 3);
        Check.due("commands", x.leg(0, 0), 0);
        Check.due("text", x.count(6), 38);
    }

    /** "each change records everything before it but the text" */
    private static void everythingButTheText() {
        Counted x = new Counted();
        Check.text(x, "oooo");
        x.go(1);
        x.type(';');
        x.go(1);
        x.clearText();
        x.type('h');
        x.undo();
        Check.due("length behind undo", x.count(6), 1);
        Check.due("fault behind undo", x.wrong(), 1);
        x.undo();
        Check.due("length behind both", x.count(6), 1);
        x.clearText();
        Check.due("no fault", x.wrong(), Check.NONE);
    }

    private static void historyGoesRound() {
        Counted x = new Counted();
        int value = 100;
        for (int round = 0; round < 12; round++) {
            for (int change = 1; change <= 5; change++) {
                x.set(5, 1000 * round + change);
            }
            Check.due("full", x.count(5), 4);
            for (int back = 1; back <= 4; back++) {
                Check.due("undo", x.undo(), 4 - back);
            }
            value = 1000 * round + 1;
            Check.due("the fourth before", x.count(15), value);
            Check.due("empty", x.undo(), Check.IMPOSSIBLE);
        }
    }

    /** scope: "NOT_FOUND if it does not keep so many"; "slots that the scope keeps" */
    private static void emptyScope() {
        Counted x = new Counted();
        for (int what = 0; what <= 4; what++) {
            Check.due("scope(0, " + what + ")", x.scope(0, what), Check.NONE);
        }
        Check.due("kept", x.count(2), 0);
        x.go(1);
        Check.due("kept", x.count(2), 1);
        for (int what = 0; what <= 4; what++) {
            Check.due("scope(0, " + what + ")", x.scope(0, what), 0);
            Check.due("scope(1, " + what + ")", x.scope(1, what), Check.NONE);
        }
        x.undo();
        Check.due("kept", x.count(2), 0);
        Check.due("scope(0, 0)", x.scope(0, 0), Check.NONE);
    }

    /** "A scope keeps the latest 32 slots." */
    private static void fullScope() {
        for (int slots : new int[] {2, 31, 32, 33, 34, 63, 64, 65, 96, 97}) {
            Counted x = new Counted();
            x.setLoad(0, 1, 0);
            x.setLoad(1, 0, 3);
            x.setLoad(1, 1, 0);
            Check.commands(x, 1, 2, 2, 1);
            for (int slot = 0; slot < slots; slot++) {
                x.go(1);
            }
            int kept = Math.min(slots, 32);
            Check.due("kept of " + slots, x.count(2), kept);
            for (int back = 0; back < kept; back++) {
                Check.due("slot, back " + back + " of " + slots, x.scope(back, 0), slots - 1 - back);
                Check.due("load 0, back " + back + " of " + slots, x.scope(back, 1), 50 * (slots - back));
                Check.due("load 1, back " + back + " of " + slots, x.scope(back, 2), -3 * (slots - back));
            }
            Check.due("back " + kept + " of " + slots, x.scope(kept, 0), Check.NONE);
            Check.due("back " + kept + " of " + slots, x.scope(kept, 1), Check.NONE);
        }
    }

    private static void scopeInOneCall() {
        Counted x = new Counted();
        x.setLoad(0, 0, 1);
        x.setLoad(0, 1, 0);
        Check.commands(x, 1, 2, 0, 0);
        x.go(1000);
        for (int back = 0; back < 32; back++) {
            Check.due("slot, back " + back, x.scope(back, 0), 999 - back);
            Check.due("current, back " + back, x.scope(back, 1), 1000 - back);
        }
        Check.due("back 32", x.scope(32, 1), Check.NONE);
    }

    /** The scope, too, is part of the state that a change records. */
    private static void scopeUndone() {
        for (int more : new int[] {1, 31, 32, 33, 1000}) {
            Counted x = new Counted();
            x.setLoad(0, 1, 0);
            Check.commands(x, 1, 2, 0, 0);
            x.go(40);
            Check.commands(x, 2, 2, 0, 0);
            x.go(more);
            Check.due("undo", x.undo(), 3);
            for (int back = 0; back < 32; back++) {
                Check.due("slot behind the undo, back " + back, x.scope(back, 0), 39 - back);
                Check.due("current behind the undo, back " + back, x.scope(back, 1), 2000 - 50 * back);
                Check.due("states behind the undo, back " + back, x.scope(back, 3), 1 + 3 * 2);
            }
            Check.due("back 32", x.scope(32, 0), Check.NONE);
        }
        Counted x = new Counted();
        x.go(31);
        x.go(1);
        Check.due("full", x.count(2), 32);
        x.undo();
        Check.due("one less", x.count(2), 31);
        Check.due("back 30", x.scope(30, 0), 0);
        Check.due("back 31", x.scope(31, 0), Check.NONE);
    }

    /** "the states of all legs, leg k as 3 to the power k times its state" */
    private static void scopeOfStates() {
        int[] powers = {1, 3, 9, 27};
        for (int leg = 0; leg < 4; leg++) {
            for (int state = 0; state <= 2; state++) {
                Counted x = new Counted();
                x.command(leg, state);
                x.go(1);
                Check.due("leg " + leg + " is " + state, x.scope(0, 3), powers[leg] * state);
            }
        }
        Counted x = new Counted();
        Check.commands(x, 2, 2, 2, 2);
        x.go(1);
        Check.due("all are low", x.scope(0, 3), 80);
        Check.commands(x, 1, 0, 2, 2);
        x.go(1);
        Check.due("not their commands", x.scope(0, 3), 2 * 9 + 2 * 27);
        Check.due("the slot before", x.scope(1, 3), 80);
    }

    /** "the loads that were held behind it, as bits" */
    private static void scopeOfHeldLoads() {
        Counted x = new Counted();
        x.set(1, 0);
        for (int load = 0; load <= 1; load++) {
            x.setLoad(load, 0, 1);
            x.setLoad(load, 1, 0);
            x.setLoad(load, 2, 3 - load);
            x.chop(load, 1);
        }
        Check.commands(x, 1, 2, 1, 2);
        int[] want = {0, 2, 3, 3};
        for (int slot = 0; slot < want.length; slot++) {
            x.go(1);
            Check.due("held behind the slot " + slot, x.scope(0, 4), want[slot]);
        }
        x.chop(1, 0);
        Check.due("the slot behind which it was held stays", x.scope(0, 4), 3);
        x.go(1);
        Check.due("the load 0 alone", x.scope(0, 4), 1);
        Check.due("the slot before", x.scope(1, 4), 3);
        Check.due("the second slot", x.scope(3, 4), 2);
    }

    /** A slot that takes the place of one 32 slots older takes nothing over from it. */
    private static void scopeTakesNothingOver() {
        Counted x = new Counted();
        x.set(0, 0);
        x.set(1, 0);
        for (int load = 0; load <= 1; load++) {
            x.setLoad(load, 1, 0);
            x.setLoad(load, 2, 50);
            x.setLoad(load, 3, 0);
            x.chop(load, 1);
        }
        Check.commands(x, 2, 1, 1, 2);
        x.go(40);
        Check.due("held", x.scope(0, 4), 3);
        Check.due("currents", x.scope(0, 1), -50);
        Check.due("states", x.scope(0, 3), 1 + 3 + 2 * 9 + 2 * 27);
        Check.commands(x, 0, 0, 0, 0);
        x.go(20);
        for (int back = 0; back < 32; back++) {
            boolean later = back < 20;
            Check.due("held, back " + back, x.scope(back, 4), later ? 0 : 3);
            Check.due("load 0, back " + back, x.scope(back, 1), later ? 0 : -50);
            Check.due("load 1, back " + back, x.scope(back, 2), later ? 0 : 50);
            Check.due("states, back " + back, x.scope(back, 3), later ? 0 : 76);
        }
    }

    /** count: the totals of slots that are undone are undone too. */
    private static void totalsUndone() {
        Counted x = new Counted();
        x.set(1, 0);
        x.setLoad(0, 2, 40);
        x.setLoad(0, 3, 0);
        x.chop(0, 1);
        Check.commands(x, 1, 2, 2, 1);
        x.go(2);
        long[] want = {x.count(3), x.count(4), x.count(20)};
        Check.due("switchings", want[0], 5);
        Check.due("held slots", want[1], 1);
        Check.due("sum of the sizes", want[2], 40 + 40 + 0 + 80);
        x.go(50);
        x.undo();
        Check.due("switchings", x.count(3), want[0]);
        Check.due("held slots", x.count(4), want[1]);
        Check.due("sum of the sizes", x.count(20), want[2]);
        Check.due("slots", x.count(0), 2);
    }

    /** "An object is used for at most 512 calls": the 512th is as good as the first. */
    private static void theLastCall() {
        Counted x = new Counted();
        for (int call = 1; call <= 255; call++) {
            x.set(5, call);
            x.go(1);
        }
        Check.due("the 511th call", x.undo(), 3);
        Check.due("the 512th call", x.count(0), 254);
        x = new Counted();
        for (int call = 1; call <= 511; call++) {
            x.go(call % 2 + 1);
        }
        Check.due("the 512th call", x.undo(), 3);
    }
}
