import java.util.ArrayList;
import java.util.List;

/** Counts the answers that are not the ones that are due, and some words that the tests share. */
final class Check {
    static final int INVALID = -2000000001;
    static final int IMPOSSIBLE = -2000000002;
    static final int LIMIT = -2000000003;
    static final int NONE = -2000000004;

    private static final int MOST_LINES = 40;
    private static int asked;
    private static int wrong;

    private Check() {
    }

    static void due(String call, long got, long want) {
        asked++;
        if (got == want) {
            return;
        }
        wrong++;
        if (wrong <= MOST_LINES) {
            System.out.println(call + " answered " + got + ", due is " + want);
        }
    }

    /** To be called last: ends the test with exit code 1 if an answer was wrong. */
    static void end() {
        System.out.println(asked + " answers, " + wrong + " wrong");
        if (wrong > 0 || asked == 0) {
            System.exit(1);
        }
    }

    static boolean allAsDue() {
        return wrong == 0;
    }

    /** Replaces the text of the bridge. */
    static void text(BridgeLegs bridge, String text) {
        bridge.clearText();
        for (int place = 0; place < text.length(); place++) {
            due("type in \"" + text + "\"", bridge.type(text.charAt(place)), place + 1);
        }
    }

    /** Gives the commands of the four legs: 0 off, 1 high, 2 low. */
    static void commands(BridgeLegs bridge, int leg0, int leg1, int leg2, int leg3) {
        bridge.command(0, leg0);
        bridge.command(1, leg1);
        bridge.command(2, leg2);
        bridge.command(3, leg3);
    }

    /** All that the looking calls answer, with the errors behind the ends of their ranges. */
    static List<Long> look(BridgeLegs bridge) {
        List<Long> seen = new ArrayList<>();
        for (int what = -1; what <= 21; what++) {
            seen.add(bridge.count(what));
        }
        for (int leg = -1; leg <= 4; leg++) {
            for (int what = -1; what <= 8; what++) {
                seen.add((long) bridge.leg(leg, what));
            }
        }
        for (int load = -1; load <= 2; load++) {
            for (int what = -1; what <= 12; what++) {
                seen.add((long) bridge.load(load, what));
            }
            for (int fault = -1; fault <= 3; fault++) {
                for (int what = -1; what <= 5; what++) {
                    seen.add((long) bridge.fault(load, fault, what));
                }
            }
        }
        for (int back = -1; back <= 32; back++) {
            for (int what = -1; what <= 5; what++) {
                seen.add((long) bridge.scope(back, what));
            }
        }
        return seen;
    }

    /** How many of what was looked at differ. */
    static int differences(List<Long> one, List<Long> other) {
        int differences = Math.abs(one.size() - other.size());
        for (int place = 0; place < Math.min(one.size(), other.size()); place++) {
            if (!one.get(place).equals(other.get(place))) {
                differences++;
            }
        }
        return differences;
    }
}
