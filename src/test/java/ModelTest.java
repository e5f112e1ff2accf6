import java.util.Random;

/** Long runs of calls, always the same ones, answered by BridgeLegs and by the model. */
public final class ModelTest {
    private static final int RUNS = 100;
    /** A round of likely or odd calls has at most ten, so a run stays within the 512 calls of an object. */
    private static final int CALLS = Counted.MOST_CALLS - 10;
    private static final String[] PARTS = {"hl==;", "lh==*9;", "==hl*30;", "==lh*3;", "oooo*2;", "hhll;", "====*12;",
        "h=l=*7;", "=l=h*120;", "hlhl*40;", "hlhl*0;", "hlhl*501;", "hl;", "====*5", "x", "*", ";", "0", "1", "h", "l", "=", "o"};
    private static final int[] ODD = {Integer.MIN_VALUE, -1, 0, 1, 2, 3, 4, 5, 6, 7, 8, 9, 10, 11, 12, 15, 16, 20, 21,
        31, 32, 33, 50, 51, 80, 100, 101, 126, 127, 1000, 1001, 900000, 900001, 1000000, 1000001, Integer.MAX_VALUE};

    private final Random random;
    private final Counted bridge = new Counted();
    private final Model model = new Model();
    private final StringBuilder told = new StringBuilder();
    private final int run;
    private int calls;

    private ModelTest(int run) {
        this.run = run;
        random = new Random(run);
    }

    public static void main(String[] args) {
        for (int run = 0; run < RUNS && Check.allAsDue(); run++) {
            new ModelTest(run).run();
        }
        Check.end();
    }

    private void due(String call, long got, long want) {
        calls++;
        told.append(' ').append(call).append(" -> ").append(want).append('\n');
        Check.due("run " + run + ", call " + calls + ": " + call, got, want);
    }

    private void run() {
        boolean quick = run % 3 != 0;
        prepare();
        while (calls < CALLS && Check.allAsDue()) {
            if (quick) {
                likely();
            } else if (random.nextInt(4) == 0) {
                odd();
            } else {
                likely();
            }
        }
        if (!Check.allAsDue()) {
            System.out.println(told);
        }
    }

    private int pick(int... values) {
        return values[random.nextInt(values.length)];
    }

    /** Settings under which choppers hold, faults are latched and dead slots matter. */
    private void prepare() {
        if (random.nextBoolean()) {
            set(0, random.nextInt(5));
        }
        if (random.nextBoolean()) {
            set(1, pick(0, 0, 1, 2, 5, 10));
        }
        set(2, pick(100, 300, 500, 1000, 5000, 1000000));
        set(3, pick(2, 3, 5, 20));
        if (random.nextBoolean()) {
            set(4, pick(1, 100, 1000, 20000, 1000000000));
            set(5, pick(0, 1, 100, 1000));
        }
        for (int load = 0; load < 2; load++) {
            setLoad(load, 0, pick(1, 20, 50, 100, 500, 1000));
            setLoad(load, 1, pick(0, 0, 1, 10, 50, 100));
            setLoad(load, 2, pick(1, 100, 200, 400, 1000));
            setLoad(load, 3, pick(0, 1, 50, 100, 200, 400));
            chop(load, random.nextInt(2));
        }
        for (int leg = 0; leg < 4; leg++) {
            command(leg, random.nextInt(3));
        }
    }

    private void likely() {
        switch (random.nextInt(24)) {
            case 0: set(random.nextInt(6), pick(0, 1, 2, 3, 4, 20, 100, 200, 500, 1000)); break;
            case 1: setLoad(random.nextInt(2), random.nextInt(4), pick(0, 1, 2, 20, 50, 60, 100, 150, 400, 1000)); break;
            case 2: case 3: case 4: command(random.nextInt(4), random.nextInt(3)); break;
            case 5: chop(random.nextInt(2), pick(0, 1, 1)); break;
            case 6: case 7: case 8: case 9: case 10: go(pick(1, 1, 1, 2, 2, 3, 4, 5, 8, 13, 40)); break;
            case 11: case 12: case 13: clear(random.nextInt(2), random.nextInt(3)); break;
            case 14: due("undo()", bridge.undo(), model.undo()); break;
            case 15: until(random.nextInt(2), pick(1, 40, 100, 200, 399, 500, 1000, 5000)); break;
            case 16: ifGo(random.nextInt(2), pick(1, 2, 3, 5, 10, 30)); break;
            case 17: text(); break;
            case 18: due("wrong()", bridge.wrong(), model.wrong()); break;
            case 19: due("playing()", bridge.playing(), model.playing()); break;
            case 20: due("play()", bridge.play(), model.play()); break;
            default: look(); break;
        }
    }

    private void odd() {
        int one = pick(ODD);
        int two = pick(ODD);
        int three = pick(ODD);
        switch (random.nextInt(16)) {
            case 0: set(one, two); break;
            case 1: setLoad(random.nextInt(3) - 1, one, two); break;
            case 2: command(one, two); break;
            case 3: chop(one, two); break;
            case 4: go(one % 100); break;
            case 5: clear(one, two); break;
            case 6: until(random.nextInt(4) - 1, one); break;
            case 7: ifGo(random.nextInt(4) - 1, one); break;
            case 8: type(one); break;
            case 9: due("count(" + one + ")", bridge.count(one), model.count(one)); break;
            case 10: leg(one, two); break;
            case 11: load(one, two); break;
            case 12: fault(one, two, three); break;
            case 13: scope(one, two); break;
            case 14: due("clearText()", bridge.clearText(), model.clearText()); break;
            default: look(); break;
        }
    }

    private void set(int what, int value) {
        due("set(" + what + ", " + value + ")", bridge.set(what, value), model.set(what, value));
    }

    private void setLoad(int load, int what, int value) {
        due("setLoad(" + load + ", " + what + ", " + value + ")", bridge.setLoad(load, what, value), model.setLoad(load, what, value));
    }

    private void command(int leg, int command) {
        due("command(" + leg + ", " + command + ")", bridge.command(leg, command), model.command(leg, command));
    }

    private void chop(int load, int on) {
        due("chop(" + load + ", " + on + ")", bridge.chop(load, on), model.chop(load, on));
    }

    private void go(int slots) {
        due("go(" + slots + ")", bridge.go(slots), model.go(slots));
    }

    private void clear(int load, int fault) {
        due("clear(" + load + ", " + fault + ")", bridge.clear(load, fault), model.clear(load, fault));
    }

    private void until(int load, int amount) {
        due("until(" + load + ", " + amount + ")", bridge.until(load, amount), model.until(load, amount));
    }

    private void ifGo(int load, int slots) {
        due("ifGo(" + load + ", " + slots + ")", bridge.ifGo(load, slots), model.ifGo(load, slots));
    }

    private void type(int character) {
        due("type(" + character + ")", bridge.type(character), model.type(character));
    }

    private void leg(int leg, int what) {
        due("leg(" + leg + ", " + what + ")", bridge.leg(leg, what), model.leg(leg, what));
    }

    private void load(int load, int what) {
        due("load(" + load + ", " + what + ")", bridge.load(load, what), model.load(load, what));
    }

    private void fault(int load, int fault, int what) {
        due("fault(" + load + ", " + fault + ", " + what + ")", bridge.fault(load, fault, what), model.fault(load, fault, what));
    }

    private void scope(int back, int what) {
        due("scope(" + back + ", " + what + ")", bridge.scope(back, what), model.scope(back, what));
    }

    private void text() {
        if (random.nextInt(3) == 0) {
            due("clearText()", bridge.clearText(), model.clearText());
        }
        String part = PARTS[random.nextInt(random.nextBoolean() ? 10 : PARTS.length)];
        for (int place = 0; place < part.length(); place++) {
            type(part.charAt(place));
        }
    }

    private void look() {
        int load = random.nextInt(2);
        switch (random.nextInt(6)) {
            case 0:
                int what = pick(0, 1, 2, 3, 4, 5, 6, 20, random.nextInt(24));
                due("count(" + what + ")", bridge.count(what), model.count(what));
                break;
            case 1: leg(random.nextInt(4), random.nextInt(8)); break;
            case 2: load(load, random.nextInt(12)); break;
            case 3: fault(load, random.nextInt(3), random.nextInt(5)); break;
            case 4: scope(random.nextInt(40) - 1, random.nextInt(5)); break;
            default: load(load, pick(4, 5, 7, 8, 9, 10)); break;
        }
    }
}
