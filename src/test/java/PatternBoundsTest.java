/** The boundary cases of "Texts", sentence by sentence. */
public final class PatternBoundsTest {
    private static Counted shared = new Counted();

    public static void main(String[] args) {
        emptyText();
        fullText();
        clearedText();
        endsTooEarly();
        everyNumber();
        fourthDigit();
        outOfRangeAndMore();
        theFirstFaultAlone();
        numberOfNothing();
        lettersAreSmall();
        slotsOfParts();
        asItIs();
        eachLetterForItsLeg();
        latchedOnTheWay();
        Check.end();
    }

    /** The text alone is asked, so one object serves for many of them, until its calls are used up. */
    private static Counted with(String text) {
        if (shared.calls() + text.length() + 10 > Counted.MOST_CALLS) {
            shared = new Counted();
        }
        Check.text(shared, text);
        return shared;
    }

    private static void wrong(String text, int place) {
        Counted x = with(text);
        Check.due("wrong() of \"" + text + "\"", x.wrong(), place);
        Check.due("playing() of \"" + text + "\"", x.playing(), Check.IMPOSSIBLE);
        Check.due("play() of \"" + text + "\"", x.play(), Check.IMPOSSIBLE);
        Check.due("length of \"" + text + "\"", x.count(6), text.length());
        Check.due("no slot of \"" + text + "\"", x.count(0), 0);
    }

    private static void right(String text, int slots) {
        Counted x = with(text);
        Check.due("wrong() of \"" + text + "\"", x.wrong(), Check.NONE);
        Check.due("playing() of \"" + text + "\"", x.playing(), slots);
    }

    /** "initially empty"; wrong: "NOT_FOUND if it has none (also if it is empty)"; play: "of the empty one nothing" */
    private static void emptyText() {
        Counted x = new Counted();
        Check.due("length", x.count(6), 0);
        Check.due("wrong()", x.wrong(), Check.NONE);
        Check.due("playing()", x.playing(), 0);
        Check.due("clearText()", x.clearText(), 0);
        Check.commands(x, 1, 2, 1, 2);
        Check.due("play()", x.play(), 0);
        Check.due("no slot", x.count(0), 0);
        for (int leg = 0; leg < 4; leg++) {
            Check.due("command", x.leg(leg, 0), 1 + leg % 2);
            Check.due("state", x.leg(leg, 1), 0);
        }
    }

    /** "There is a text of at most 80 characters" */
    private static void fullText() {
        Counted x = new Counted();
        String full = "hl=o;".repeat(16);
        Check.text(x, full.substring(0, 79));
        Check.due("wrong() of 79", x.wrong(), 79);
        Check.due("the 80th character", x.type(';'), 80);
        Check.due("the 81st character", x.type(';'), Check.LIMIT);
        Check.due("the 81st character, again", x.type('h'), Check.LIMIT);
        Check.due("length", x.count(6), 80);
        Check.due("wrong() of 80", x.wrong(), Check.NONE);
        Check.due("playing()", x.playing(), 16);
        Check.due("play()", x.play(), 16);
        Check.due("high in", x.leg(0, 5), 16);
        Check.due("clearText()", x.clearText(), 80);
        Check.due("a character behind it", x.type('h'), 1);
        wrong(full.substring(0, 79) + "h", 79);
        wrong(full.substring(0, 79) + "*", 80);
        wrong(full.substring(0, 75) + "hlhl*", 80);
        wrong("hl=o*12;".repeat(9) + "hl=o*500", 80);
        right("hl=o*12;".repeat(9) + "hl=o*50;", 158);
        right("hl=o*12;".repeat(9) + "hl=o*9;", 117);
    }

    /** clearText: "Returns the length it had." */
    private static void clearedText() {
        Counted x = new Counted();
        for (String text : new String[] {"h", "hlhl;", "hl=o;".repeat(16), ""}) {
            for (int place = 0; place < text.length(); place++) {
                x.type(text.charAt(place));
            }
            Check.due("clearText()", x.clearText(), text.length());
            Check.due("length", x.count(6), 0);
            Check.due("wrong()", x.wrong(), Check.NONE);
            Check.due("playing()", x.playing(), 0);
        }
    }

    /** "or its length, if it ends too early" */
    private static void endsTooEarly() {
        String text = "hl=o*123;oooo;llll*7;";
        for (int length = 1; length <= text.length(); length++) {
            String part = text.substring(0, length);
            if (part.endsWith(";")) {
                right(part, length == 9 ? 123 : length == 14 ? 124 : 131);
            } else {
                wrong(part, length);
            }
        }
        // Out of its range, but not followed by ";": it only ends too early.
        for (String number : new String[] {"0", "00", "000", "501", "999", "600"}) {
            wrong("hhhh*" + number, 5 + number.length());
        }
    }

    /** "a number of slots (1 to 3 digits, 1 to 500 ..)", "out of its range is a fault at its first digit" */
    private static void everyNumber() {
        for (int number = 0; number <= 999; number++) {
            String digits = Integer.toString(number);
            for (String zeros : new String[] {"", "0", "00"}) {
                if (zeros.length() + digits.length() <= 3) {
                    String text = "o=hl*" + zeros + digits + ";";
                    if (number >= 1 && number <= 500) {
                        right(text, number);
                    } else {
                        wrong(text, 5);
                    }
                }
            }
        }
    }

    /** "A fourth digit can not stand" */
    private static void fourthDigit() {
        for (String number : new String[] {"0001", "0000", "0500", "5000", "1234", "9999", "00001"}) {
            wrong("hhhh*" + number + ";", 8);
            wrong("hhhh*" + number, 8);
            wrong("oooo;hhhh*" + number + ";", 13);
        }
    }

    /** Out of its range and followed by ";", whatever stands behind it. */
    private static void outOfRangeAndMore() {
        for (String behind : new String[] {"", "h", "hhhh;", "x", ";", "hhhh*0;", "hhhh*501;"}) {
            wrong("hhhh*0;" + behind, 5);
            wrong("hhhh*00;" + behind, 5);
            wrong("hhhh*501;" + behind, 5);
            wrong("oooo*500;hhhh*501;" + behind, 14);
            wrong("oooo;hhhh*1;hhhh*999;" + behind, 17);
        }
    }

    /** "the first character that cannot stand where it stands" */
    private static void theFirstFaultAlone() {
        wrong("xhhh*0;", 0);
        wrong("hhxh*0;", 2);
        wrong("hhhhx0;", 4);
        wrong("hhhh*x;", 5);
        wrong("hhhh*0x;", 6);
        wrong("hhhh*00x", 7);
        wrong("hhhh*501x;", 8);
        wrong("hhhh*0*5;", 6);
        wrong("hhhh*5 ;", 6);
        wrong("hhhh* 5;", 5);
        wrong(" hhhh;", 0);
        wrong("hhhh; ", 5);
        wrong("hhhh;;", 5);
        wrong(";hhhh;", 0);
        wrong("hhhhh;", 4);
        wrong("hhh;", 3);
        wrong("hhhh,", 4);
        wrong("hhhh*+5;", 5);
        wrong("hhhh*5.;", 6);
    }

    /** A "*" must have a digit behind it. */
    private static void numberOfNothing() {
        wrong("hhhh*;", 5);
        wrong("hhhh**;", 5);
        wrong("hhhh*h;", 5);
        wrong("hhhh*", 5);
        wrong("*5;", 0);
        wrong("hhh*5;", 3);
    }

    private static void lettersAreSmall() {
        for (char letter : new char[] {'O', 'H', 'L', '0', '-', 'g', 'i', 'k', 'm', 'n', 'p', '<', '>'}) {
            for (int place = 0; place < 4; place++) {
                wrong("ohl=".substring(0, place) + letter + "hhh;", place);
            }
        }
    }

    /** "without it 1" */
    private static void slotsOfParts() {
        right("oooo;", 1);
        right("oooo*1;", 1);
        right("oooo*2;", 2);
        right("oooo*500;oooo;", 501);
        right("oooo;oooo*500;", 501);
        right("oooo*500;".repeat(8), 4000);
        right("oooo*500;".repeat(8) + "oooo*50;", 4050);
        right("oooo*001;oooo*010;oooo*100;", 111);
        right("oooo*10;oooo*1;oooo*05;oooo;", 17);
        Counted x = new Counted();
        Check.text(x, "hooo*500;oooo*3;looo*2;");
        Check.due("play()", x.play(), 505);
        Check.due("high in", x.leg(0, 5), 500);
        Check.due("off in", x.leg(0, 7), 3);
        Check.due("low in", x.leg(0, 6), 2);
    }

    /** "or "=" (as it is)" */
    private static void asItIs() {
        for (int command = 0; command <= 2; command++) {
            Counted x = new Counted();
            Check.commands(x, command, command, command, command);
            Check.text(x, "====;");
            Check.due("play()", x.play(), 1);
            for (int leg = 0; leg < 4; leg++) {
                Check.due("command of leg " + leg, x.leg(leg, 0), command);
                Check.due("state of leg " + leg, x.leg(leg, 1), command);
            }
        }
    }

    private static void eachLetterForItsLeg() {
        String letters = "ohl";
        for (int leg = 0; leg < 4; leg++) {
            for (int command = 0; command <= 2; command++) {
                Counted x = new Counted();
                int before = (command + 1) % 3;
                Check.commands(x, before, before, before, before);
                StringBuilder text = new StringBuilder("====;");
                text.setCharAt(leg, letters.charAt(command));
                Check.text(x, text.toString());
                x.play();
                for (int other = 0; other < 4; other++) {
                    Check.due("leg " + other + " behind \"" + text + "\"", x.leg(other, 0), other == leg ? command : before);
                }
            }
        }
    }

    /** A fault on the way stops neither the slots nor the commands. */
    private static void latchedOnTheWay() {
        Counted x = new Counted();
        x.set(1, 0);
        x.set(2, 80);
        Check.text(x, "hloo*5;lh=h*4;oooo;");
        Check.due("play()", x.play(), 10);
        Check.due("latched in", x.fault(0, 0, 1), 1);
        Check.due("low in", x.leg(0, 6), 0);
        Check.due("the other load's leg", x.leg(3, 5), 4);
        Check.due("command", x.leg(0, 0), 0);
        Check.due("one change", x.count(5), 3);
    }
}
