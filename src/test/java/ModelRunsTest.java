/** All promises together: long mixed runs, each answer compared with that of the model. */
public final class ModelRunsTest {
    private static final int RUNS = 400;
    private static final int CALLS = 512;

    private static final Check check = new Check("ModelRunsTest");

    private final PageRotas x = new PageRotas();
    private final Model model = new Model();
    private final Dice dice;
    private final int run;
    private int calls;

    private ModelRunsTest(int run) {
        this.run = run;
        dice = new Dice(run);
    }

    public static void main(String[] args) {
        for (int run = 1; run <= RUNS; run++) {
            check.about("run " + run);
            new ModelRunsTest(run).go();
        }
        check.end();
    }

    private void go() {
        if (!dice.oneIn(10)) {
            settle();
        }
        while (calls < CALLS) {
            step();
        }
    }

    private int call(String name, int a, int b, int c) {
        calls++;
        int want = model.call(name, a, b, c);
        int got = Face.call(x, name, a, b, c);
        check.due("call " + calls + ", " + name + "(" + a + ", " + b + ", " + c + ")", got, want);
        return want;
    }

    /** People and regions as most runs have them, so that something can happen. */
    private void settle() {
        int people = dice.from(2, 8);
        for (int i = 0; i < people; i++) {
            call("person", 0, 0, 0);
        }
        int regions = dice.from(1, 3);
        for (int r = 0; r < regions; r++) {
            call("region", dice.from(0, 23), dice.from(0, 23), dice.oneIn(2) ? dice.from(1, 3) : dice.from(1, 24));
            for (int i = dice.from(0, 5); i > 0; i--) {
                call("join", r, dice.from(0, people - 1), 0);
            }
        }
        for (int i = dice.from(0, 4); i > 0; i--) {
            call("quiet", dice.from(0, people - 1), dice.from(0, 23), dice.from(0, 23));
        }
        if (dice.oneIn(2)) {
            call("set", 1, dice.from(0, 600), 0);
        }
        if (dice.oneIn(3)) {
            call("set", 0, dice.from(1, 120), 0);
        }
    }

    private void step() {
        int kind = dice.from(0, 99);
        if (kind < 4) {
            people();
        } else if (kind < 12) {
            rotas();
        } else if (kind < 22) {
            call("alert", dice.from(-1, dice.oneIn(2) ? 4 : 20), dice.oneIn(2) ? 0 : dice.from(-1, 3), 0);
        } else if (kind < 28) {
            call("acknowledge", dice.from(-1, 8), 0, 0);
        } else if (kind < 31) {
            call("resolve", dice.from(-1, 8), 0, 0);
        } else if (kind < 42) {
            call("pass", minutes(), 0, 0);
        } else if (kind < 44) {
            call("set", dice.from(-1, 2), dice.oneIn(2) ? dice.from(0, 20) : dice.from(-1, 601), 0);
        } else if (kind < 48) {
            call("undo", 0, 0, 0);
        } else if (kind < 52) {
            text();
        } else if (kind < 56) {
            call(dice.oneIn(2) ? "play" : "fault", dice.from(-1, 2), 0, 0);
        } else {
            ask();
        }
    }

    private int minutes() {
        int kind = dice.from(0, 9);
        if (kind < 4) {
            return dice.from(1, 12);
        }
        if (kind < 7) {
            return dice.from(1, 100);
        }
        return kind < 9 ? dice.from(1, 600) : dice.from(-1, 601);
    }

    private void people() {
        int kind = dice.from(0, 6);
        if (kind == 0) {
            call("person", 0, 0, 0);
        } else if (kind == 1) {
            call("region", dice.from(-1, 24), dice.from(-1, 24), dice.from(0, 25));
        } else if (kind < 5) {
            call("quiet", dice.from(-1, 8), dice.from(-1, 24), dice.from(-1, 24));
        } else {
            call("except", dice.from(-1, 8), dice.from(-1, 20), 0);
        }
    }

    private void rotas() {
        int kind = dice.from(0, 3);
        if (kind < 2) {
            call("join", dice.from(-1, 3), dice.from(-1, 8), 0);
        } else if (kind == 2) {
            call("leave", dice.from(-1, 3), dice.from(-1, 8), 0);
        } else {
            call("override", dice.from(-1, 3), dice.from(-1, 8), dice.oneIn(2) ? dice.from(1, 5) : dice.from(0, 100));
        }
    }

    private void ask() {
        int kind = dice.from(0, 15);
        if (kind < 4) {
            call("incidentOf", dice.from(-1, 8), dice.from(-1, 12), 0);
        } else if (kind < 7) {
            call("personOf", dice.from(-1, 8), dice.from(-1, 7), 0);
        } else if (kind < 10) {
            call("count", dice.from(-1, 22), 0, 0);
        } else if (kind < 12) {
            call("onCall", dice.oneIn(2) ? dice.from(0, 3000) : dice.from(-1, 30001), dice.from(-2, 10), 0);
        } else if (kind < 14) {
            call("later", dice.from(-1, 8), minutes(), dice.from(-1, 3));
        } else if (kind == 14) {
            call("rotaAt", dice.from(-1, 3), dice.from(-1, 5), 0);
        } else {
            call(new String[] {"uncovered", "acknowledgeBits", "unownedBits"}[dice.from(0, 2)], 0, 0, 0);
        }
    }

    private void text() {
        if (!dice.oneIn(4)) {
            call("clearText", 0, 0, 0);
        }
        StringBuilder text = new StringBuilder();
        for (int i = dice.from(1, 4); i > 0; i--) {
            text.append(command());
        }
        if (dice.oneIn(6)) {
            text.setCharAt(dice.from(0, text.length() - 1), (char) dice.from(32, 126));
        }
        for (int i = 0; i < text.length() && calls < CALLS; i++) {
            call("type", text.charAt(i), 0, 0);
        }
        call("fault", 0, 0, 0);
        call("fault", 1, 0, 0);
        if (dice.oneIn(2)) {
            call("play", 0, 0, 0);
        }
    }

    private String command() {
        switch (dice.from(0, 5)) {
            case 0:
            case 1:
                return "a" + number(dice.from(0, 5)) + "," + number(dice.from(0, dice.oneIn(9) ? 3 : 2)) + ";";
            case 2:
                return "k" + number(dice.from(0, 2)) + ";";
            case 3:
                return "r" + number(dice.from(0, 3)) + ";";
            case 4:
                int hours = dice.from(dice.oneIn(9) ? 0 : 1, 4);
                return "o" + dice.from(0, 1) + "," + dice.from(0, 3) + "," + number(hours) + ";";
            default:
                return "t" + number(minutes() & 1023) + ";";
        }
    }

    private String number(int n) {
        int zeros = dice.oneIn(5) ? dice.from(1, 3) : 0;
        return "000".substring(0, zeros) + n;
    }
}
