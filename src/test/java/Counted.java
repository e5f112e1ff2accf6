/**
 * A BridgeLegs that counts its calls: the document promises nothing about an object after its
 * 512th call, so a test that asks more often has gone wrong itself.
 */
final class Counted {
    static final int MOST_CALLS = 512;

    private final BridgeLegs bridge = new BridgeLegs();
    private int calls;

    private BridgeLegs next() {
        calls++;
        if (calls > MOST_CALLS) {
            throw new IllegalStateException("more than " + MOST_CALLS + " calls of one object");
        }
        return bridge;
    }

    int calls() {
        return calls;
    }

    int set(int what, int value) {
        return next().set(what, value);
    }

    int setLoad(int load, int what, int value) {
        return next().setLoad(load, what, value);
    }

    int command(int leg, int command) {
        return next().command(leg, command);
    }

    int chop(int load, int on) {
        return next().chop(load, on);
    }

    int go(int slots) {
        return next().go(slots);
    }

    int clear(int load, int fault) {
        return next().clear(load, fault);
    }

    int undo() {
        return next().undo();
    }

    long count(int what) {
        return next().count(what);
    }

    int leg(int leg, int what) {
        return next().leg(leg, what);
    }

    int load(int load, int what) {
        return next().load(load, what);
    }

    int fault(int load, int fault, int what) {
        return next().fault(load, fault, what);
    }

    int scope(int back, int what) {
        return next().scope(back, what);
    }

    int until(int load, int amount) {
        return next().until(load, amount);
    }

    int ifGo(int load, int slots) {
        return next().ifGo(load, slots);
    }

    int type(int character) {
        return next().type(character);
    }

    int clearText() {
        return next().clearText();
    }

    int wrong() {
        return next().wrong();
    }

    int play() {
        return next().play();
    }

    int playing() {
        return next().playing();
    }
}
