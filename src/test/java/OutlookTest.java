/** Promises 18 to 23: who will be on call, what will become of incidents, means and shares, undo. */
public final class OutlookTest {
    private static final int INVALID = PageRotas.INVALID_ARGUMENT;
    private static final int NOT_POSSIBLE = PageRotas.NOT_POSSIBLE;
    private static final int NOT_FOUND = PageRotas.NOT_FOUND;

    private static final Check check = new Check("OutlookTest");

    public static void main(String[] args) {
        onCall();
        onCallOverMidnight();
        onCallArguments();
        uncovered();
        later();
        laterBeyondTheEnd();
        laterIsWhatPassBrings();
        acknowledgeBits();
        unownedBits();
        undo();
        check.end();
    }

    private static PageRotas house(int people, int from, int to, int shift) {
        PageRotas x = new PageRotas();
        x.region(from, to, shift);
        for (int i = 0; i < people; i++) {
            x.person();
            x.join(0, i);
        }
        return x;
    }

    private static void onCall() {
        check.about("promise 18");
        PageRotas x = house(3, 0, 12, 5);
        for (int hour = 0; hour < 12; hour++) {
            check.due("onCall, hour " + hour, x.onCall(hour * 60 + 59, 0), hour / 5 % 3);
            check.due("onCall, hour " + hour + ", level 4", x.onCall(hour * 60, 4), (hour / 5 + 4) % 3);
        }
        check.due("onCall(720, 0)", x.onCall(720, 0), NOT_FOUND);
        check.due("onCall(719, -1)", x.onCall(719, -1), 0);
        check.due("onCall(720, -1)", x.onCall(720, -1), NOT_FOUND);
        check.due("onCall(1440, 0) by the hour, not that of the day", x.onCall(1440, 0), 24 / 5 % 3);
        x.pass(61);
        check.due("onCall(239, 0) from now on", x.onCall(239, 0), 1);
        check.due("onCall(238, 0) from now on", x.onCall(238, 0), 0);
        check.due("onCall(30000, 0)", x.onCall(30000, 0), NOT_FOUND);
        check.due("onCall(29400, 0)", x.onCall(29400, 0), 491 / 5 % 3);
        x.region(11, 13, 1);
        x.join(1, 2);
        check.due("the lowest region", x.onCall(11 * 60 - 61, -1), 0);
        check.due("the other one", x.onCall(12 * 60 - 61, -1), 1);
        check.due("its person", x.onCall(12 * 60 - 61, 9), 2);
        x.leave(1, 2);
        check.due("an empty rota", x.onCall(12 * 60 - 61, -1), NOT_FOUND);
    }

    private static void onCallOverMidnight() {
        check.about("promise 18, over midnight");
        PageRotas x = house(1, 22, 4, 1);
        for (int hour = 0; hour < 48; hour++) {
            int due = hour % 24 >= 22 || hour % 24 < 4 ? 0 : NOT_FOUND;
            check.due("onCall, hour " + hour, x.onCall(hour * 60, -1), due);
            check.due("onCall, end of hour " + hour, x.onCall(hour * 60 + 59, 0), due);
        }
    }

    private static void onCallArguments() {
        check.about("promise 18, arguments");
        PageRotas x = house(1, 0, 23, 1);
        check.due("onCall(-1, 0)", x.onCall(-1, 0), INVALID);
        check.due("onCall(30001, 0)", x.onCall(30001, 0), INVALID);
        check.due("onCall(0, -2)", x.onCall(0, -2), INVALID);
        check.due("onCall(0, 10)", x.onCall(0, 10), INVALID);
        check.due("onCall(0, 9)", x.onCall(0, 9), 0);
        check.due("onCall(1380, 10) with no region", x.onCall(1380, 10), INVALID);
    }

    private static void uncovered() {
        check.about("promise 19");
        PageRotas x = house(1, 22, 4, 1);
        check.due("uncovered()", x.uncovered(), 18);
        x.region(2, 6, 1);
        check.due("uncovered() with an empty rota", x.uncovered(), 18);
        x.join(1, 0);
        check.due("uncovered()", x.uncovered(), 16);
        x.region(4, 3, 1);
        x.join(2, 0);
        check.due("uncovered()", x.uncovered(), 0);
        x.leave(0, 0);
        x.leave(1, 0);
        check.due("uncovered()", x.uncovered(), 1);
        x.pass(600);
        check.due("uncovered() at any time", x.uncovered(), 1);
    }

    private static void later() {
        check.about("promise 20");
        PageRotas x = house(2, 0, 2, 24);
        x.alert(1, 1);
        check.due("later(0, 1, 0)", x.later(0, 1, 0), 0);
        check.due("later(0, 9, 0)", x.later(0, 9, 0), 0);
        check.due("later(0, 10, 0)", x.later(0, 10, 0), 1);
        check.due("later(0, 10, 1)", x.later(0, 10, 1), 1);
        check.due("later(0, 119, 1)", x.later(0, 119, 1), 11);
        check.due("later(0, 120, 1)", x.later(0, 120, 1), 0);
        check.due("later(0, 120, 0)", x.later(0, 120, 0), NOT_FOUND);
        check.due("later(0, 120, 2)", x.later(0, 120, 2), 0);
        check.due("later(0, 600, 2)", x.later(0, 600, 2), 480);
        check.due("later(0, 0, 0)", x.later(0, 0, 0), INVALID);
        check.due("later(0, -1, 0)", x.later(0, -1, 0), INVALID);
        check.due("later(0, 601, 0)", x.later(0, 601, 0), INVALID);
        check.due("later(0, 1, -1)", x.later(0, 1, -1), INVALID);
        check.due("later(0, 1, 3)", x.later(0, 1, 3), INVALID);
        check.due("later(-1, 1, 0)", x.later(-1, 1, 0), INVALID);
        check.due("later(1, 1, 0)", x.later(1, 1, 0), INVALID);
        check.due("later(8, 1, 0)", x.later(8, 1, 0), INVALID);
        check.due("nothing has come of it", x.incidentOf(0, 2), 0);
        check.due("count(2)", x.count(2), 0);
        check.due("count(8)", x.count(8), 1);
        check.due("count(11)", x.count(11), 0);
    }

    private static void laterBeyondTheEnd() {
        check.about("promise 20, beyond the time 30000");
        PageRotas x = house(1, 0, 23, 1);
        for (int i = 0; i < 50; i++) {
            x.pass(600);
        }
        check.due("count(2)", x.count(2), 30000);
        x.alert(1, 2);
        check.due("later(0, 179, 1)", x.later(0, 179, 1), 17);
        check.due("later(0, 239, 0) in the hour of nobody", x.later(0, 239, 0), NOT_FOUND);
        check.due("later(0, 600, 1)", x.later(0, 600, 1), 36);
        check.due("later(0, 600, 2)", x.later(0, 600, 2), 60);
        check.due("later(0, 600, 0)", x.later(0, 600, 0), 0);
    }

    private static void laterIsWhatPassBrings() {
        check.about("promise 20, against promise 14");
        PageRotas x = house(3, 20, 6, 2);
        x.region(8, 14, 1);
        x.join(1, 1);
        x.override(0, 2, 3);
        x.quiet(1, 3, 5);
        x.alert(1, 0);
        x.alert(2, 1);
        for (int i = 0; i < 10; i++) {
            int[] due = new int[6];
            for (int k = 0; k < 6; k++) {
                due[k] = x.later(k / 3, 173, k % 3);
            }
            x.pass(173);
            for (int k = 0; k < 6; k++) {
                int what = new int[] {3, 2, 8}[k % 3];
                check.due("later of " + k / 3 + ", " + k % 3, x.incidentOf(k / 3, what), due[k]);
            }
        }
    }

    private static void acknowledgeBits() {
        check.about("promise 21");
        PageRotas x = house(1, 0, 23, 1);
        x.set(0, 120);
        check.due("acknowledgeBits()", x.acknowledgeBits(), NOT_FOUND);
        x.alert(1, 1);
        check.due("of none", x.acknowledgeBits(), NOT_FOUND);
        int[] minutes = {0, 1, 3, 100, 7, 119, 2};
        int sum = 0;
        for (int i = 0; i < minutes.length; i++) {
            x.resolve(0);
            x.alert(1, 1);
            if (minutes[i] > 0) {
                x.pass(minutes[i]);
            }
            check.due("acknowledge(0)", x.acknowledge(0), minutes[i]);
            sum += minutes[i];
            int due = Float.floatToIntBits((float) sum / (float) (i + 1));
            check.due("acknowledgeBits() of " + (i + 1), x.acknowledgeBits(), due);
        }
        x.resolve(0);
        check.due("resolved ones stay", x.acknowledgeBits(), Float.floatToIntBits(232f / 7f));
    }

    private static void unownedBits() {
        check.about("promise 22");
        PageRotas x = new PageRotas();
        check.due("unownedBits()", x.unownedBits(), NOT_FOUND);
        x.pass(5);
        check.due("without incidents", x.unownedBits(), NOT_FOUND);
        x.alert(1, 1);
        check.due("of no minutes", x.unownedBits(), NOT_FOUND);
        x.pass(2);
        check.due("all of them", x.unownedBits(), Float.floatToIntBits(1f));
        x.person();
        x.region(0, 23, 1);
        x.join(0, 0);
        x.pass(1);
        x.pass(4);
        check.due("3 of 7", x.unownedBits(), Float.floatToIntBits((float) (3.0 / 7.0)));
        x.alert(2, 1);
        x.pass(3);
        check.due("3 of 13", x.unownedBits(), Float.floatToIntBits((float) (3.0 / 13.0)));
        x.resolve(0);
        x.pass(3);
        check.due("3 of 16", x.unownedBits(), Float.floatToIntBits((float) (3.0 / 16.0)));
        x.resolve(1);
        x.pass(100);
        check.due("resolved ones stay", x.unownedBits(), Float.floatToIntBits((float) (3.0 / 16.0)));

        PageRotas y = house(1, 0, 23, 1);
        y.alert(1, 1);
        y.pass(1);
        check.due("none of them", y.unownedBits(), 0);
    }

    private static void undo() {
        check.about("promise 23");
        PageRotas x = new PageRotas();
        check.due("undo()", x.undo(), NOT_POSSIBLE);
        for (int i = 0; i < 6; i++) {
            x.person();
        }
        check.due("count(14)", x.count(14), 4);
        check.due("undo()", x.undo(), 3);
        check.due("count(0)", x.count(0), 5);
        check.due("undo()", x.undo(), 2);
        check.due("person()", x.person(), 4);
        check.due("undo()", x.undo(), 2);
        check.due("undo()", x.undo(), 1);
        check.due("undo()", x.undo(), 0);
        check.due("count(0)", x.count(0), 2);
        check.due("undo()", x.undo(), NOT_POSSIBLE);
        check.due("count(0)", x.count(0), 2);
        x.type('t');
        x.type('1');
        check.due("typing is no change", x.count(14), 0);
        x.person();
        x.type(';');
        check.due("undo()", x.undo(), 0);
        check.due("the text stays", x.count(15), 3);
        x.clearText();
        check.due("clearText is no change", x.count(14), 0);
    }
}
