import java.util.LinkedHashMap;
import java.util.List;
import java.util.Map;

/** Counts the answers that are not the ones that are due, and some words that the tests share. */
final class Check {
    static final int INVALID = -2000000001;
    static final int IMPOSSIBLE = -2000000002;
    static final int LIMIT = -2000000003;
    static final int NONE = -2000000004;

    private static final int MOST_LINES = 40;
    private static int asked;
    private static int wrong;

    private Check() {
    }

    static void due(String call, long got, long want) {
        asked++;
        if (got == want) {
            return;
        }
        wrong++;
        if (wrong <= MOST_LINES) {
            System.out.println(call + " answered " + got + ", due is " + want);
        }
    }

    /** To be called last: ends the test with exit code 1 if an answer was wrong. */
    static void end() {
        System.out.println(asked + " answers, " + wrong + " wrong");
        if (wrong > 0 || asked == 0) {
            System.exit(1);
        }
    }

    static boolean allAsDue() {
        return wrong == 0;
    }

    /** Replaces the text of the bridge. */
    static void text(Counted bridge, String text) {
        bridge.clearText();
        for (int place = 0; place < text.length(); place++) {
            due("type in \"" + text + "\"", bridge.type(text.charAt(place)), place + 1);
        }
    }

    /** Gives the commands of the four legs: 0 off, 1 high, 2 low. */
    static void commands(Counted bridge, int leg0, int leg1, int leg2, int leg3) {
        bridge.command(0, leg0);
        bridge.command(1, leg1);
        bridge.command(2, leg2);
        bridge.command(3, leg3);
    }

    /** A bridge with something of everything: held, blanked, latched, driven, a full scope, a text. */
    static Counted busy(String text) {
        Counted x = new Counted();
        x.set(0, 3);
        x.set(1, 4);
        x.set(2, 700);
        x.setLoad(1, 0, 90);
        x.setLoad(0, 2, 150);
        x.setLoad(0, 3, 20);
        x.chop(0, 1);
        commands(x, 1, 2, 2, 1);
        x.go(40);
        text(x, text);
        x.command(1, 1);
        x.go(1);
        return x;
    }

    /**
     * What the looking calls answer, told by the calls; of the scope only some slots, so that
     * an object can be looked at three times within its 512 calls.
     */
    static Map<String, Long> look(Counted bridge) {
        Map<String, Long> seen = new LinkedHashMap<>();
        for (int what = 0; what <= 20; what++) {
            if (what <= 6 || what >= 10 && what <= 15 || what == 20) {
                seen.put("count(" + what + ")", bridge.count(what));
            }
        }
        for (int leg = 0; leg < 4; leg++) {
            for (int what = 0; what <= 7; what++) {
                seen.put("leg(" + leg + ", " + what + ")", (long) bridge.leg(leg, what));
            }
        }
        for (int load = 0; load < 2; load++) {
            for (int what = 0; what <= 11; what++) {
                seen.put("load(" + load + ", " + what + ")", (long) bridge.load(load, what));
            }
            for (int fault = 0; fault < 3; fault++) {
                for (int what = 0; what <= 4; what++) {
                    seen.put("fault(" + load + ", " + fault + ", " + what + ")", (long) bridge.fault(load, fault, what));
                }
            }
        }
        for (int back : new int[] {0, 1, 2, 15, 31}) {
            for (int what = 0; what <= 4; what++) {
                seen.put("scope(" + back + ", " + what + ")", (long) bridge.scope(back, what));
            }
        }
        seen.put("wrong()", (long) bridge.wrong());
        seen.put("playing()", (long) bridge.playing());
        return seen;
    }

    /** Compares two looks; the calls that are named last may differ. */
    static void same(String told, Map<String, Long> got, Map<String, Long> want, String... free) {
        List<String> differing = List.of(free);
        for (String call : want.keySet()) {
            if (!differing.contains(call)) {
                due(told + ": " + call, got.get(call), want.get(call));
            }
        }
    }
}
