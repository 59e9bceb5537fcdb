/** Promises 24 to 27: the text, its fault, and playing it. */
public final class TextsTest {
    private static final int INVALID = PageRotas.INVALID_ARGUMENT;
    private static final int NOT_POSSIBLE = PageRotas.NOT_POSSIBLE;
    private static final int LIMIT = PageRotas.LIMIT_REACHED;
    private static final int NOT_FOUND = PageRotas.NOT_FOUND;

    private static final Check check = new Check("TextsTest");

    public static void main(String[] args) {
        type();
        clearText();
        faultArguments();
        faultsOfForm();
        faultsOfArguments();
        faultsOfState();
        firstFaultOnly();
        faultChangesNothing();
        play();
        playOfEachCommand();
        playOfNothing();
        playIsOneChange();
        check.end();
    }

    private static PageRotas house() {
        PageRotas x = new PageRotas();
        x.person();
        x.person();
        x.region(0, 23, 24);
        x.join(0, 0);
        return x;
    }

    private static void write(PageRotas x, String text) {
        x.clearText();
        for (int i = 0; i < text.length(); i++) {
            x.type(text.charAt(i));
        }
    }

    private static void type() {
        check.about("promise 24");
        PageRotas x = house();
        check.due("type(31)", x.type(31), INVALID);
        check.due("type(127)", x.type(127), INVALID);
        check.due("type(-1)", x.type(-1), INVALID);
        check.due("type(65633)", x.type(65633), INVALID);
        check.due("type(32)", x.type(32), 1);
        check.due("type(126)", x.type(126), 2);
        for (int i = 3; i <= 80; i++) {
            check.due("type('a')", x.type('a'), i);
        }
        check.due("type('a') too many", x.type('a'), LIMIT);
        check.due("type(31) too many", x.type(31), INVALID);
        check.due("count(15)", x.count(15), 80);
    }

    private static void clearText() {
        check.about("promise 25");
        PageRotas x = house();
        check.due("clearText()", x.clearText(), 0);
        write(x, "x;y");
        check.due("fault(0)", x.fault(0), 0);
        check.due("clearText()", x.clearText(), 3);
        check.due("count(15)", x.count(15), 0);
        check.due("fault(0)", x.fault(0), NOT_FOUND);
        check.due("clearText()", x.clearText(), 0);
        write(x, "t1;");
        check.due("fault(0)", x.fault(0), NOT_FOUND);
        x.clearText();
        x.type('t');
        x.type('1');
        check.due("fault(0), the old sign behind is gone", x.fault(0), 0);
        check.due("fault(1), the old sign behind is gone", x.fault(1), 1);
    }

    private static void faultArguments() {
        check.about("promise 26, arguments");
        PageRotas x = house();
        check.due("fault(-1)", x.fault(-1), INVALID);
        check.due("fault(2)", x.fault(2), INVALID);
        check.due("fault(0) of an empty text", x.fault(0), NOT_FOUND);
        check.due("fault(1) of an empty text", x.fault(1), NOT_FOUND);
        write(x, "x");
        check.due("fault(-1)", x.fault(-1), INVALID);
        check.due("fault(2)", x.fault(2), INVALID);
    }

    private static void fault(String text, int at, int reason) {
        PageRotas x = house();
        write(x, text);
        check.due("fault(0) of " + text, x.fault(0), at);
        check.due("fault(1) of " + text, x.fault(1), reason);
        check.due("play() of " + text, x.play(), at == NOT_FOUND ? commandsOf(text) : NOT_POSSIBLE);
    }

    private static int commandsOf(String text) {
        return (int) text.chars().filter(c -> c == ';').count();
    }

    private static void faultsOfForm() {
        check.about("promise 26, reason 1");
        String[] wrong = {
            "a", "a1", "a1,", "a1,1", "a,1;", "a1,;", "a1;", "a1,1,1;", "a0001,1;", "a1,0001;", "a 1,1;", "a1, 1;",
            " a1,1;", "a1,1 ;", "A1,1;", "a-1,1;", "a+1,1;", "a1.1;", "a1,1,", "k", "k;", "k0", "k0,", "k0000;",
            "k,0;", "r", "r;", "r0 ", "r0,0;", "o", "o;", "o0,1;", "o0,1,1", "o0,1,1,1;", "o0,,1;", "o,0,1,1;",
            "t", "t;", "t1", "t0001;", "t1,;", "t1x;", "x1;", "1;", ";", ",", "p1;", "tt1;", "~", "t1:", "b1,1;",
        };
        for (String text : wrong) {
            fault(text, 0, 1);
            fault("t1;" + text, 3, 1);
            fault("a5,1;t010;" + text, 10, 1);
        }
        fault("t1; t1;", 3, 1);
        fault("t1;;", 3, 1);
    }

    private static void faultsOfArguments() {
        check.about("promise 26, reason 2");
        String[] wrong = {
            "a20,1;", "a999,1;", "a1,3;", "a1,999;", "k1;", "k8;", "k999;", "r1;", "r8;", "r999;", "o1,1,1;",
            "o0,2,1;", "o0,8,1;", "o0,1,0;", "o0,1,100;", "o999,999,999;", "t0;", "t000;", "t601;", "t999;",
        };
        for (String text : wrong) {
            fault(text, 0, 2);
            fault("a5,1;" + text, 5, 2);
        }
        fault("k0;", 0, 2);
        fault("a1,1;r0;r0;", 8, 2);
    }

    private static void faultsOfState() {
        check.about("promise 26, reason 3");
        fault("a1,1;k0;k0;", 8, 3);
        fault("a1,1;k00;t1;a1,2;k000;", 17, 3);
        fault("a0,0;a1,0;a2,0;a3,0;a4,0;a5,0;a6,0;a7,0;a8,0;", 40, 3);
        fault("a0,0;a1,0;a2,0;a3,0;a4,0;a5,0;a6,0;a7,0;a0,0;", NOT_FOUND, NOT_FOUND);
        fault("o0,0,1;o0,0,1;o0,0,1;o0,0,1;o0,0,1;o0,0,1;o0,0,1;", 42, 3);
        fault("o0,0,1;o0,0,1;o0,0,1;o0,0,1;o0,0,1;o0,0,1;t60;o0,0,99;", NOT_FOUND, NOT_FOUND);
        PageRotas x = house();
        for (int i = 0; i < 49; i++) {
            x.pass(600);
        }
        write(x, "t300;t301;x");
        check.due("fault(0) too far", x.fault(0), 5);
        check.due("fault(1) too far", x.fault(1), 3);
        write(x, "t300;t300;t601;");
        check.due("fault(0) out of range and too far", x.fault(0), 10);
        check.due("fault(1) out of range and too far", x.fault(1), 2);
        write(x, "t300;t300;");
        check.due("fault(0) up to the end", x.fault(0), NOT_FOUND);

        PageRotas y = house();
        y.quiet(0, 0, 23);
        write(y, "a1,0;k0;");
        check.due("fault(0) without owner", y.fault(0), 5);
        check.due("fault(1) without owner", y.fault(1), 3);
    }

    private static void firstFaultOnly() {
        check.about("promise 26, the first fault");
        fault("k0;x", 0, 2);
        fault("x;k0;", 0, 1);
        fault("a1,1;k0;k0;t0;", 8, 3);
        fault("a1,1;k1;k0;k0;", 5, 2);
    }

    private static void faultChangesNothing() {
        check.about("promise 26, changes nothing");
        PageRotas x = house();
        write(x, "a1,1;t600;k0;o0,1,9;");
        check.due("fault(0)", x.fault(0), NOT_FOUND);
        check.due("fault(1)", x.fault(1), NOT_FOUND);
        check.due("count(2)", x.count(2), 0);
        check.due("count(3)", x.count(3), 0);
        check.due("count(6)", x.count(6), 0);
        check.due("count(13)", x.count(13), 0);
        check.due("count(14)", x.count(14), 4);
        check.due("personOf(0, 0)", x.personOf(0, 0), 0);
        write(x, "a1,1;t600;k0;k0;");
        check.due("play()", x.play(), NOT_POSSIBLE);
        check.due("count(2)", x.count(2), 0);
        check.due("count(6)", x.count(6), 0);
        check.due("count(15)", x.count(15), 16);
    }

    private static void play() {
        check.about("promise 27");
        PageRotas x = house();
        write(x, "a12,2;t009;k0;");
        check.due("play()", x.play(), 3);
        check.due("count(2)", x.count(2), 9);
        check.due("incidentOf(0, 0)", x.incidentOf(0, 0), 12);
        check.due("incidentOf(0, 4)", x.incidentOf(0, 4), 1);
        check.due("acknowledgeBits()", x.acknowledgeBits(), Float.floatToIntBits(9f));
        check.due("the text stays", x.count(15), 14);
        check.due("play() again", x.play(), NOT_POSSIBLE);
        check.due("fault(0)", x.fault(0), 11);
        check.due("fault(1)", x.fault(1), 3);
        x.undo();
        check.due("play() after undo", x.play(), 3);
        write(x, "k0;k0;k0;k0;k0;k0;k0;k0;k0;k0;k0;k0;k0;k0;k0;k0;k0;k0;k0;k0;k0;k0;k0;k0;k0;k0;");
        check.due("fault(0) of acknowledged ones", x.fault(0), 0);
        write(x, "t1;t1;t1;t1;t1;t1;t1;t1;t1;t1;t1;t1;t1;t1;t1;t1;t1;t1;t1;t1;t1;t1;t1;t1;t1;t1;");
        check.due("play() of 26", x.play(), 26);
        check.due("count(2)", x.count(2), 35);
    }

    private static void playOfEachCommand() {
        check.about("promise 27, each command");
        PageRotas x = house();
        write(x, "a3,1;a03,2;a4,0;r01;o0,1,02;t120;k0;");
        check.due("play()", x.play(), 7);
        PageRotas y = house();
        y.alert(3, 1);
        y.alert(3, 2);
        y.alert(4, 0);
        y.resolve(1);
        y.override(0, 1, 2);
        y.pass(120);
        y.acknowledge(0);
        for (int what = 0; what <= 11; what++) {
            check.due("incidentOf(0, " + what + ")", x.incidentOf(0, what), y.incidentOf(0, what));
            check.due("incidentOf(1, " + what + ")", x.incidentOf(1, what), INVALID);
        }
        for (int what = 0; what <= 13; what++) {
            check.due("count(" + what + ")", x.count(what), y.count(what));
        }
        check.due("count(13)", x.count(13), 0);
        write(x, "o0,1,99;");
        check.due("play() of an override", x.play(), 1);
        check.due("count(13)", x.count(13), 1);
        check.due("onCall(5939, 0)", x.onCall(5939, 0), 1);
        check.due("onCall(5940, 0)", x.onCall(5940, 0), 0);
    }

    private static void playOfNothing() {
        check.about("promise 27, no commands");
        PageRotas x = new PageRotas();
        check.due("play()", x.play(), 0);
        check.due("count(14)", x.count(14), 1);
        x.person();
        check.due("play()", x.play(), 0);
        check.due("count(14)", x.count(14), 3);
        check.due("undo()", x.undo(), 2);
        check.due("count(0)", x.count(0), 1);
        check.due("undo()", x.undo(), 1);
        check.due("count(0)", x.count(0), 0);
    }

    private static void playIsOneChange() {
        check.about("promise 27, one change");
        PageRotas x = house();
        x.undo();
        x.undo();
        x.undo();
        check.due("count(14)", x.count(14), 1);
        write(x, "t1;t2;t3;a1,1;");
        check.due("play()", x.play(), 4);
        check.due("count(14)", x.count(14), 2);
        check.due("undo()", x.undo(), 1);
        check.due("count(2)", x.count(2), 0);
        check.due("count(3)", x.count(3), 0);
        check.due("count(15)", x.count(15), 14);
        write(x, "t1;t0;");
        check.due("play() with a fault", x.play(), NOT_POSSIBLE);
        check.due("count(14)", x.count(14), 1);
        check.due("count(2)", x.count(2), 0);
    }
}
