import java.util.List;
import java.util.Map;
import java.util.function.Consumer;

/** Promise 8, undo, and which calls are changes. */
public final class HistoryTest {
    public static void main(String[] args) {
        emptyHistory();
        atMostFour();
        eachKindOfChange();
        lookingIsNoChange();
        errorsAreNoChanges();
        everythingComesBack();
        drivenLoadsComeBack();
        latchesComeBack();
        theTextStays();
        ringGoesRound();
        Check.end();
    }

    private static void emptyHistory() {
        Counted x = new Counted();
        Check.due("undo of nothing", x.undo(), Check.IMPOSSIBLE);
        x.go(1);
        Check.due("undo of one", x.undo(), 0);
        Check.due("undo of no more", x.undo(), Check.IMPOSSIBLE);
        Check.due("slot", x.count(0), 0);
    }

    private static void atMostFour() {
        Counted x = new Counted();
        for (int change = 1; change <= 6; change++) {
            x.set(5, change);
            Check.due("states behind " + change + " changes", x.count(5), Math.min(change, 4));
        }
        for (int left = 3; left >= 0; left--) {
            Check.due("undo", x.undo(), left);
            Check.due("cooling", x.count(15), left + 2);
            Check.due("states left", x.count(5), left);
        }
        Check.due("undo of a dropped one", x.undo(), Check.IMPOSSIBLE);
        Check.due("cooling stays", x.count(15), 2);
    }

    private static void eachKindOfChange() {
        Counted x = new Counted();
        x.setLoad(1, 0, 7);
        Check.due("setLoad", x.undo(), 0);
        Check.due("step", x.load(1, 0), 50);
        x.command(3, 2);
        Check.due("command", x.undo(), 0);
        Check.due("command of leg 3", x.leg(3, 0), 0);
        x.chop(1, 1);
        Check.due("chop", x.undo(), 0);
        Check.due("chopper", x.load(1, 6), 0);
        Check.text(x, "hlhl*7;");
        Check.due("typing is no change", x.undo(), Check.IMPOSSIBLE);
        x.play();
        Check.due("play is one change", x.undo(), 0);
        Check.due("slot", x.count(0), 0);
        Check.due("command given by play", x.leg(0, 0), 0);
        Check.text(x, "");
        x.play();
        Check.due("play of the empty text", x.undo(), 0);
        // What changes nothing, but returns no error, is a change too.
        x.command(0, 0);
        x.chop(0, 0);
        Check.due("two changes", x.count(5), 2);
    }

    private static void lookingIsNoChange() {
        Counted x = new Counted();
        x.go(1);
        Check.look(x);
        x.until(0, 5);
        x.ifGo(0, 5);
        x.type('h');
        x.wrong();
        x.playing();
        x.clearText();
        Check.due("one change", x.count(5), 1);
        Check.due("undo is none", x.undo(), 0);
    }

    private static void errorsAreNoChanges() {
        Counted x = new Counted();
        x.set(9, 0);
        x.setLoad(0, 0, 0);
        x.command(4, 0);
        x.chop(0, 3);
        x.go(0);
        x.clear(0, 0);
        x.clear(0, 7);
        Check.text(x, "h");
        x.play();
        Check.due("no change", x.count(5), 0);
    }

    private static void everythingComesBack() {
        List<Consumer<Counted>> changes = List.of(x -> x.go(1), x -> x.go(1000), x -> x.set(1, 9),
            x -> x.setLoad(1, 3, 9), x -> x.command(2, 0), x -> x.chop(0, 0), x -> x.clear(1, 0), x -> x.play());
        for (int number = 0; number < changes.size(); number++) {
            Counted x = Check.busy("hl==*3;");
            Counted twin = Check.busy("hl==*3;");
            changes.get(number).accept(x);
            Check.due("change " + number + " undone", x.undo(), 3);
            Check.same("undone change " + number, Check.look(x), Check.look(twin), "count(5)");
            x.go(37);
            twin.go(37);
            Check.same("slots behind the undone change " + number, Check.look(x), Check.look(twin), "count(5)");
        }
    }

    private static void drivenLoadsComeBack() {
        Counted x = new Counted();
        Check.commands(x, 1, 2, 2, 1);
        x.go(7);
        Map<String, Long> before = Check.look(x);
        x.go(5);
        x.undo();
        Check.same("driven loads", Check.look(x), before, "count(5)");
        Check.due("driven run", x.load(1, 11), 7);
        Check.due("sum of the sizes", x.count(20), 2 * 40 * 28);
    }

    private static void latchesComeBack() {
        Counted x = new Counted();
        x.set(1, 0);
        x.set(2, 100);
        Check.commands(x, 0, 0, 2, 1);
        x.go(3);
        x.go(5);
        x.clear(1, 0);
        x.go(3);
        Check.due("latched anew in the slot", x.fault(1, 0, 1), 10);
        x.undo();
        Check.due("cleared", x.fault(1, 0, 0), 0);
        Check.due("slot of none", x.fault(1, 0, 1), Check.NONE);
        x.command(2, 1);
        x.command(3, 2);
        x.go(3);
        Check.due("latched the other way", x.fault(1, 0, 2), 120);
        x.undo();
        x.undo();
        x.undo();
        x.undo();
        Check.due("latched again", x.fault(1, 0, 0), 1);
        Check.due("in its old slot", x.fault(1, 0, 1), 2);
        Check.due("with its old current", x.fault(1, 0, 2), -120);
    }

    private static void theTextStays() {
        Counted x = new Counted();
        x.go(1);
        Check.text(x, "oooo;");
        x.go(1);
        x.type('h');
        x.undo();
        Check.due("text behind the undo", x.count(6), 6);
        x.undo();
        Check.due("text behind both", x.count(6), 6);
        Check.due("and as it was", x.wrong(), 6);
        x.clearText();
        Check.due("text emptied", x.count(6), 0);
    }

    private static void ringGoesRound() {
        Counted x = new Counted();
        for (int round = 0; round < 9; round++) {
            x.go(1);
            x.go(2);
            x.go(4);
            Check.due("undo", x.undo(), Math.min(2 * round + 3, 4) - 1);
            Check.due("slot", x.count(0), 3L * (round + 1));
        }
        // Of the last rounds, the states before go(2) at 25, before go(1) at 24 and before go(2) at 22 are left.
        long[] slots = {25, 24, 22};
        for (int time = 0; time < slots.length; time++) {
            Check.due("undo " + time, x.undo(), slots.length - 1 - time);
            Check.due("slot behind undo " + time, x.count(0), slots[time]);
        }
        Check.due("no more", x.undo(), Check.IMPOSSIBLE);
    }
}
