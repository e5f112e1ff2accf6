/** Promises 16 to 20: type, clearText, wrong, play, playing. */
public final class TextTest {
    public static void main(String[] args) {
        type();
        clearText();
        textsWithoutFault();
        textsWithFaults();
        everySignAtEveryPlace();
        playing();
        play();
        playGivesCommands();
        playAndTheLimit();
        theLongestText();
        Check.end();
    }

    private static void type() {
        Counted x = new Counted();
        for (int wrong : new int[] {Integer.MIN_VALUE, -1, 0, 31, 127, 256, 65536 + 'h', Integer.MAX_VALUE}) {
            Check.due("type(" + wrong + ")", x.type(wrong), Check.INVALID);
        }
        Check.due("no length", x.count(6), 0);
        Check.due("type(32)", x.type(32), 1);
        Check.due("type(126)", x.type(126), 2);
        for (int length = 3; length <= 80; length++) {
            Check.due("type('h')", x.type('h'), length);
        }
        Check.due("type into a full text", x.type('h'), Check.LIMIT);
        Check.due("type wrongly into a full text", x.type(127), Check.INVALID);
        Check.due("full length", x.count(6), 80);
        Check.due("no change", x.count(5), 0);
    }

    private static void clearText() {
        Counted x = new Counted();
        Check.due("clearText of nothing", x.clearText(), 0);
        Check.text(x, "oooo*5;");
        Check.due("clearText", x.clearText(), 7);
        Check.due("clearText again", x.clearText(), 0);
        Check.due("length", x.count(6), 0);
        Check.due("empty has no fault", x.wrong(), Check.NONE);
        Check.due("empty takes nothing", x.playing(), 0);
        Check.due("type", x.type('h'), 1);
        // Nothing of the text before is left behind the new end.
        Check.due("too short", x.wrong(), 1);
    }

    private static void wrong(String text, int want) {
        Counted x = new Counted();
        Check.text(x, text);
        Check.due("wrong() of \"" + text + "\"", x.wrong(), want);
        Check.due("playing() or not of \"" + text + "\"", x.playing() == Check.IMPOSSIBLE ? 1 : 0, want == Check.NONE ? 0 : 1);
        if (want != Check.NONE) {
            Check.due("play() of \"" + text + "\"", x.play(), Check.IMPOSSIBLE);
            Check.due("no change by it", x.count(5), 0);
        }
    }

    private static void textsWithoutFault() {
        for (String text : new String[] {"", "oooo;", "hhhh;", "llll;", "====;", "ohl=*1;", "ohl=*500;", "ohl=*499;",
            "oooo*001;", "oooo*01;", "oooo*099;", "oooo*9;", "oooo;hhhh;llll*25;====;"}) {
            wrong(text, Check.NONE);
        }
    }

    private static void textsWithFaults() {
        wrong("o", 1);
        wrong("oo", 2);
        wrong("ooo", 3);
        wrong("oooo", 4);
        wrong("ooooo", 4);
        wrong(";", 0);
        wrong("*", 0);
        wrong("5", 0);
        wrong("O", 0);
        wrong("oo;", 2);
        wrong("ooo;", 3);
        wrong("ooo*;", 3);
        wrong("oooo ;", 4);
        wrong("oooo5;", 4);
        wrong("oooo*", 5);
        wrong("oooo*;", 5);
        wrong("oooo**5;", 5);
        wrong("oooo*x", 5);
        wrong("oooo*-1;", 5);
        wrong("oooo*5", 6);
        wrong("oooo*50", 7);
        wrong("oooo*500", 8);
        wrong("oooo*0;", 5);
        wrong("oooo*00;", 5);
        wrong("oooo*000;", 5);
        wrong("oooo*501;", 5);
        wrong("oooo*999;", 5);
        wrong("oooo*999", 8);
        wrong("oooo*0", 6);
        wrong("oooo*0x", 6);
        wrong("oooo*999x", 8);
        wrong("oooo*0500;", 8);
        wrong("oooo*5000;", 8);
        wrong("oooo*5o", 6);
        wrong("oooo*5*5;", 6);
        wrong("oooo;;", 5);
        wrong("oooo; oooo;", 5);
        wrong("oooo;o", 6);
        wrong("oooo*12;hhhh*0;", 13);
        wrong("oooo*12;hhhh*600;x", 13);
        wrong("oooo*501;x", 5);
    }

    /** Each sign in each place of a whole text: what can stand there is told by the text's form. */
    private static void everySignAtEveryPlace() {
        String whole = "hl=o*123;oooo;";
        String[] may = {"ohl=", "ohl=", "ohl=", "ohl=", ";*", "0123456789", ";0123456789", ";0123456789", ";",
            "ohl=", "ohl=", "ohl=", "ohl=", ";*"};
        Counted x = new Counted();
        int calls = 0;
        for (int place = 0; place < whole.length(); place++) {
            for (int sign = 32; sign <= 126; sign++) {
                if (calls > 400) {
                    x = new Counted();
                    calls = 0;
                }
                String text = whole.substring(0, place) + (char) sign;
                Check.text(x, text);
                calls += text.length() + 2;
                boolean stands = may[place].indexOf(sign) >= 0;
                boolean ends = sign == ';';
                Check.due("wrong() of \"" + text + "\"", x.wrong(), !stands ? place : ends ? Check.NONE : place + 1);
            }
        }
    }

    private static void playing(String text, int want) {
        Counted x = new Counted();
        Check.text(x, text);
        Check.due("playing() of \"" + text + "\"", x.playing(), want);
        Check.due("no slot goes by", x.count(0), 0);
        Check.due("no change", x.count(5), 0);
        Check.due("play() of \"" + text + "\"", x.play(), want);
        Check.due("slots", x.count(0), want);
        Check.due("one change", x.count(5), 1);
        Check.due("the text stays", x.count(6), text.length());
    }

    private static void playing() {
        playing("", 0);
        playing("oooo;", 1);
        playing("oooo*1;", 1);
        playing("oooo*2;", 2);
        playing("oooo*10;", 10);
        playing("oooo*007;", 7);
        playing("oooo*123;", 123);
        playing("oooo*500;", 500);
        playing("oooo;hhhh*20;llll*300;====;", 322);
    }

    private static void play() {
        Counted x = new Counted();
        Check.text(x, "hl=o*3;=o==;l===*4;");
        Check.due("play()", x.play(), 8);
        Counted twin = new Counted();
        twin.command(0, 1);
        twin.command(1, 2);
        twin.go(3);
        twin.command(1, 0);
        twin.go(1);
        twin.command(0, 2);
        twin.go(4);
        Check.same("played, and its commands one by one", Check.look(x), Check.look(twin),
            "count(5)", "count(6)", "playing()");
        Check.due("one change", x.count(5), 1);
        Check.due("again", x.play(), 8);
        Check.due("slots", x.count(0), 16);
        Check.due("undo of the second", x.undo(), 1);
        Check.due("slots", x.count(0), 8);
        Check.due("undo of the first", x.undo(), 0);
        Check.due("slots", x.count(0), 0);
        Check.due("text", x.count(6), 19);
    }

    private static void playGivesCommands() {
        Counted x = new Counted();
        Check.text(x, "ohl=;");
        Check.commands(x, 1, 0, 0, 2);
        x.play();
        Check.due("o", x.leg(0, 0), 0);
        Check.due("h", x.leg(1, 0), 1);
        Check.due("l", x.leg(2, 0), 2);
        Check.due("=", x.leg(3, 0), 2);
        Check.text(x, "lo=h;");
        x.play();
        Check.due("l", x.leg(0, 0), 2);
        Check.due("o", x.leg(1, 0), 0);
        Check.due("=", x.leg(2, 0), 2);
        Check.due("h", x.leg(3, 0), 1);
        Check.text(x, "");
        x.play();
        Check.due("empty", x.leg(0, 0), 2);
        // A fault that is latched on the way turns the legs off, but the pattern goes on.
        x = new Counted();
        x.setLoad(0, 1, 100);
        x.set(3, 2);
        Check.text(x, "hloo*5;====*5;");
        Check.due("with a fault on the way", x.play(), 10);
        Check.due("latched", x.fault(0, 1, 1), 1);
        Check.due("off", x.leg(0, 1), 0);
    }

    private static void playAndTheLimit() {
        Counted x = new Counted();
        for (int time = 0; time < 99; time++) {
            x.go(1000);
        }
        x.go(990);
        Check.text(x, "hlhl*5;oooo*6;");
        long states = x.count(5);
        Check.due("beyond the limit", x.play(), Check.LIMIT);
        Check.due("playing takes no heed of it", x.playing(), 11);
        Check.due("nothing played", x.leg(0, 0), 0);
        Check.due("no slot", x.count(0), 99990);
        Check.due("states", x.count(5), states);
        x.type('x');
        Check.due("a fault goes before the limit", x.play(), Check.IMPOSSIBLE);
        Check.text(x, "hlhl*5;oooo*5;");
        Check.due("up to the limit", x.play(), 10);
        Check.due("at the limit", x.count(0), 100000);
        Check.due("not beyond it", x.play(), Check.LIMIT);
        Check.text(x, "");
        Check.due("nothing at the limit", x.play(), 0);
    }

    private static void theLongestText() {
        Counted x = new Counted();
        StringBuilder text = new StringBuilder();
        for (int part = 0; part < 16; part++) {
            text.append("hlhl;");
        }
        Check.text(x, text.toString());
        Check.due("one more", x.type(';'), Check.LIMIT);
        Check.due("wrong()", x.wrong(), Check.NONE);
        Check.due("playing()", x.playing(), 16);
        Check.due("play()", x.play(), 16);
        Check.text(x, "oooo*500;oooo*500;oooo*500;oooo*500;oooo*500;oooo*500;oooo*500;oooo*500;====;===");
        Check.due("ends too early at its greatest length", x.wrong(), 80);
        Check.text(x, "oooo*500;oooo*500;oooo*500;oooo*500;oooo*500;oooo*500;oooo*500;oooo*500;====*9;");
        Check.due("playing() of many slots", x.playing(), 4009);
        Check.due("play() of many slots", x.play(), 4009);
    }
}
