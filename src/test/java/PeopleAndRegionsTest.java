/** Promises 1 to 10: a new object, people, regions, rotas, quiet hours, exceptions, overrides. */
public final class PeopleAndRegionsTest {
    private static final int INVALID = PageRotas.INVALID_ARGUMENT;
    private static final int NOT_POSSIBLE = PageRotas.NOT_POSSIBLE;
    private static final int LIMIT = PageRotas.LIMIT_REACHED;
    private static final int NOT_FOUND = PageRotas.NOT_FOUND;

    private static final Check check = new Check("PeopleAndRegionsTest");

    public static void main(String[] args) {
        newObject();
        person();
        region();
        join();
        leave();
        quiet();
        quietHoursOfAnIncident();
        except();
        override();
        overrideEnds();
        overridesThatStay();
        rotaAt();
        personOf();
        personOfPresentHour();
        check.end();
    }

    private static PageRotas house(int people) {
        PageRotas x = new PageRotas();
        for (int i = 0; i < people; i++) {
            x.person();
        }
        return x;
    }

    private static void newObject() {
        check.about("promise 1");
        PageRotas x = new PageRotas();
        for (int what = 0; what <= 15; what++) {
            check.due("count(" + what + ")", x.count(what), 0);
        }
        check.due("count(20)", x.count(20), 10);
        check.due("count(21)", x.count(21), 30);
        check.due("uncovered()", x.uncovered(), 24);
        check.due("onCall(0, 0)", x.onCall(0, 0), NOT_FOUND);
        check.due("onCall(0, -1)", x.onCall(0, -1), NOT_FOUND);
        check.due("personOf(0, 0)", x.personOf(0, 0), INVALID);
        check.due("rotaAt(0, 0)", x.rotaAt(0, 0), INVALID);
        check.due("incidentOf(0, 0)", x.incidentOf(0, 0), INVALID);
        check.due("undo()", x.undo(), NOT_POSSIBLE);
        check.due("fault(0)", x.fault(0), NOT_FOUND);
        check.due("acknowledgeBits()", x.acknowledgeBits(), NOT_FOUND);
        check.due("unownedBits()", x.unownedBits(), NOT_FOUND);
    }

    private static void person() {
        check.about("promise 2");
        PageRotas x = new PageRotas();
        for (int i = 0; i < 8; i++) {
            check.due("person()", x.person(), i);
            check.due("count(0)", x.count(0), i + 1);
            for (int what = 0; what <= 6; what++) {
                check.due("personOf(" + i + ", " + what + ")", x.personOf(i, what), 0);
            }
        }
        check.due("person()", x.person(), LIMIT);
        check.due("count(0)", x.count(0), 8);
        check.due("count(14)", x.count(14), 4);
        x.undo();
        check.due("person() again", x.person(), 7);
        x.quiet(7, 0, 5);
        x.except(7, 3);
        x.undo();
        x.undo();
        x.undo();
        check.due("person() again", x.person(), 7);
        check.due("without quiet hours", x.personOf(7, 5), 0);
        check.due("without exceptions", x.personOf(7, 6), 0);
    }

    private static void region() {
        check.about("promise 3");
        PageRotas x = new PageRotas();
        check.due("region(-1, 5, 1)", x.region(-1, 5, 1), INVALID);
        check.due("region(24, 5, 1)", x.region(24, 5, 1), INVALID);
        check.due("region(5, -1, 1)", x.region(5, -1, 1), INVALID);
        check.due("region(5, 24, 1)", x.region(5, 24, 1), INVALID);
        check.due("region(5, 5, 1)", x.region(5, 5, 1), INVALID);
        check.due("region(5, 6, 0)", x.region(5, 6, 0), INVALID);
        check.due("region(5, 6, 25)", x.region(5, 6, 25), INVALID);
        check.due("count(14)", x.count(14), 0);
        check.due("region(0, 23, 24)", x.region(0, 23, 24), 0);
        check.due("region(23, 0, 1)", x.region(23, 0, 1), 1);
        check.due("region(4, 3, 8)", x.region(4, 3, 8), 2);
        check.due("count(1)", x.count(1), 3);
        check.due("region(1, 2, 3)", x.region(1, 2, 3), LIMIT);
        check.due("region(1, 1, 3)", x.region(1, 1, 3), INVALID);
        check.due("count(1)", x.count(1), 3);
        for (int i = 0; i < 3; i++) {
            check.due("rotaAt(" + i + ", 0)", x.rotaAt(i, 0), NOT_FOUND);
        }
        check.due("onCall(0, -1) with empty rotas", x.onCall(0, -1), NOT_FOUND);

        PageRotas y = house(1);
        y.region(3, 5, 1);
        y.join(0, 0);
        y.undo();
        y.undo();
        check.due("region(3, 5, 1) again", y.region(3, 5, 1), 0);
        check.due("rotaAt(0, 0) is empty", y.rotaAt(0, 0), NOT_FOUND);
    }

    private static void join() {
        check.about("promise 4");
        PageRotas x = house(7);
        x.region(0, 12, 1);
        x.region(12, 0, 1);
        check.due("join(-1, 0)", x.join(-1, 0), INVALID);
        check.due("join(2, 0)", x.join(2, 0), INVALID);
        check.due("join(0, -1)", x.join(0, -1), INVALID);
        check.due("join(0, 7)", x.join(0, 7), INVALID);
        int[] people = {3, 1, 4, 0, 5};
        for (int i = 0; i < 5; i++) {
            check.due("join(0, " + people[i] + ")", x.join(0, people[i]), i + 1);
        }
        for (int i = 0; i < 5; i++) {
            check.due("rotaAt(0, " + i + ")", x.rotaAt(0, i), people[i]);
        }
        check.due("join(0, 6)", x.join(0, 6), LIMIT);
        check.due("join(0, 5) of a full rota", x.join(0, 5), NOT_POSSIBLE);
        check.due("join(0, 7) of a full rota", x.join(0, 7), INVALID);
        check.due("join(1, 3)", x.join(1, 3), 1);
        check.due("join(1, 3) twice", x.join(1, 3), NOT_POSSIBLE);
        check.due("rotaAt(0, 5)", x.rotaAt(0, 5), NOT_FOUND);
    }

    private static void leave() {
        check.about("promise 5");
        PageRotas x = house(6);
        x.region(0, 12, 1);
        for (int i = 0; i < 5; i++) {
            x.join(0, i);
        }
        check.due("leave(-1, 0)", x.leave(-1, 0), INVALID);
        check.due("leave(1, 0)", x.leave(1, 0), INVALID);
        check.due("leave(0, -1)", x.leave(0, -1), INVALID);
        check.due("leave(0, 6)", x.leave(0, 6), INVALID);
        check.due("leave(0, 5)", x.leave(0, 5), NOT_POSSIBLE);
        check.due("leave(0, 1)", x.leave(0, 1), 4);
        check.due("leave(0, 1) twice", x.leave(0, 1), NOT_POSSIBLE);
        int[] left = {0, 2, 3, 4};
        for (int i = 0; i < 4; i++) {
            check.due("rotaAt(0, " + i + ")", x.rotaAt(0, i), left[i]);
        }
        check.due("rotaAt(0, 4)", x.rotaAt(0, 4), NOT_FOUND);
        check.due("leave(0, 4)", x.leave(0, 4), 3);
        check.due("leave(0, 0)", x.leave(0, 0), 2);
        check.due("join(0, 1)", x.join(0, 1), 3);
        check.due("rotaAt(0, 0)", x.rotaAt(0, 0), 2);
        check.due("rotaAt(0, 2)", x.rotaAt(0, 2), 1);
        check.due("leave(0, 1)", x.leave(0, 1), 2);
        check.due("leave(0, 2)", x.leave(0, 2), 1);
        check.due("leave(0, 3)", x.leave(0, 3), 0);
        check.due("uncovered()", x.uncovered(), 24);
        check.due("onCall(0, -1)", x.onCall(0, -1), NOT_FOUND);
    }

    private static void quiet() {
        check.about("promise 6");
        PageRotas x = house(2);
        check.due("quiet(-1, 1, 2)", x.quiet(-1, 1, 2), INVALID);
        check.due("quiet(2, 1, 2)", x.quiet(2, 1, 2), INVALID);
        check.due("quiet(0, -1, 2)", x.quiet(0, -1, 2), INVALID);
        check.due("quiet(0, 24, 2)", x.quiet(0, 24, 2), INVALID);
        check.due("quiet(0, 1, -1)", x.quiet(0, 1, -1), INVALID);
        check.due("quiet(0, 1, 24)", x.quiet(0, 1, 24), INVALID);
        check.due("quiet(0, 0, 23)", x.quiet(0, 0, 23), 23);
        check.due("personOf(0, 5)", x.personOf(0, 5), 1);
        check.due("personOf(1, 5)", x.personOf(1, 5), 0);
        check.due("quiet(0, 23, 0)", x.quiet(0, 23, 0), 1);
        check.due("personOf(0, 5)", x.personOf(0, 5), 0);
        check.due("quiet(0, 23, 1)", x.quiet(0, 23, 1), 2);
        check.due("personOf(0, 5)", x.personOf(0, 5), 1);
        check.due("quiet(0, 7, 6)", x.quiet(0, 7, 6), 23);
        check.due("quiet(0, 0, 0)", x.quiet(0, 0, 0), 0);
        check.due("personOf(0, 5)", x.personOf(0, 5), 0);
        check.due("quiet(0, 23, 23)", x.quiet(0, 23, 23), 0);
    }

    private static void quietHoursOfAnIncident() {
        check.about("promise 6, pages");
        PageRotas x = house(1);
        x.region(0, 23, 1);
        x.join(0, 0);
        x.quiet(0, 0, 1);
        check.due("alert(1, 1)", x.alert(1, 1), 0);
        check.due("severity 1 wakes", x.incidentOf(0, 3), 0);
        check.due("alert(2, 0)", x.alert(2, 0), 1);
        check.due("severity 0 does not", x.incidentOf(1, 3), NOT_FOUND);
        check.due("pass(59)", x.pass(59), 5);
        check.due("still quiet", x.incidentOf(1, 3), NOT_FOUND);
        check.due("pass(1)", x.pass(1), 2);
        check.due("no longer", x.incidentOf(1, 3), 0);
        check.due("unowned", x.incidentOf(1, 8), 60);
    }

    private static void except() {
        check.about("promise 7");
        PageRotas x = house(2);
        check.due("except(-1, 0)", x.except(-1, 0), INVALID);
        check.due("except(2, 0)", x.except(2, 0), INVALID);
        check.due("except(0, -1)", x.except(0, -1), INVALID);
        check.due("except(0, 20)", x.except(0, 20), INVALID);
        check.due("except(0, 19)", x.except(0, 19), 1);
        check.due("except(0, 0)", x.except(0, 0), 2);
        check.due("except(0, 4)", x.except(0, 4), 3);
        check.due("personOf(0, 6)", x.personOf(0, 6), (1 << 19) + 1 + 16);
        check.due("except(0, 0) again", x.except(0, 0), 2);
        check.due("personOf(0, 6)", x.personOf(0, 6), (1 << 19) + 16);
        check.due("personOf(1, 6)", x.personOf(1, 6), 0);
        x.region(0, 23, 1);
        x.join(0, 0);
        x.quiet(0, 0, 12);
        x.alert(4, 0);
        x.alert(5, 0);
        check.due("an exception wakes", x.incidentOf(0, 3), 0);
        check.due("another cause does not", x.incidentOf(1, 3), NOT_FOUND);
    }

    private static void override() {
        check.about("promise 8");
        PageRotas x = house(4);
        x.region(0, 12, 1);
        x.region(12, 0, 1);
        x.join(0, 0);
        x.join(0, 1);
        check.due("override(-1, 0, 1)", x.override(-1, 0, 1), INVALID);
        check.due("override(2, 0, 1)", x.override(2, 0, 1), INVALID);
        check.due("override(0, -1, 1)", x.override(0, -1, 1), INVALID);
        check.due("override(0, 4, 1)", x.override(0, 4, 1), INVALID);
        check.due("override(0, 2, 0)", x.override(0, 2, 0), INVALID);
        check.due("override(0, 2, 100)", x.override(0, 2, 100), INVALID);
        check.due("override(0, 2, 99)", x.override(0, 2, 99), 1);
        check.due("of nobody's rota", x.onCall(0, 0), 2);
        check.due("level 1 is of the rota", x.onCall(0, 1), 1);
        check.due("override(0, 3, 1)", x.override(0, 3, 1), 2);
        check.due("the last one decides", x.onCall(0, 0), 3);
        check.due("then the earlier one again", x.onCall(60, 0), 2);
        check.due("override(1, 0, 5)", x.override(1, 0, 5), 3);
        check.due("of another region", x.onCall(0, 0), 3);
        check.due("override(0, 1, 1)", x.override(0, 1, 1), 4);
        check.due("override(0, 1, 2)", x.override(0, 1, 2), 5);
        check.due("override(0, 0, 1)", x.override(0, 0, 1), 6);
        check.due("override(0, 0, 1) too many", x.override(0, 0, 1), LIMIT);
        check.due("override(0, 4, 1) too many", x.override(0, 4, 1), INVALID);
        check.due("count(13)", x.count(13), 6);
        x.pass(59);
        check.due("override(0, 0, 1) in the last minute", x.override(0, 0, 1), LIMIT);
        x.pass(1);
        check.due("count(13)", x.count(13), 3);
        check.due("override(0, 3, 1)", x.override(0, 3, 1), 4);
        check.due("onCall(0, 0)", x.onCall(0, 0), 3);
        check.due("onCall(60, 0)", x.onCall(60, 0), 2);
        check.due("a region without a rota is not on call", x.onCall(660, -1), NOT_FOUND);
    }

    private static void overrideEnds() {
        check.about("promise 8, its end");
        PageRotas x = house(2);
        x.region(0, 23, 24);
        x.join(0, 0);
        x.pass(17);
        x.override(0, 1, 2);
        check.due("onCall(119, 0)", x.onCall(119, 0), 1);
        check.due("onCall(120, 0)", x.onCall(120, 0), 0);
        x.pass(119);
        check.due("count(13)", x.count(13), 1);
        x.pass(1);
        check.due("count(13)", x.count(13), 0);
        check.due("override(0, 1, 1)", x.override(0, 1, 1), 1);
        check.due("undo()", x.undo(), 3);
        check.due("count(13)", x.count(13), 0);
        check.due("onCall(0, 0)", x.onCall(0, 0), 0);
    }

    private static void overridesThatStay() {
        check.about("promise 8, those that stay when others end");
        PageRotas x = house(5);
        x.region(0, 23, 24);
        x.join(0, 0);
        x.override(0, 1, 1);
        x.override(0, 2, 4);
        x.override(0, 3, 1);
        x.override(0, 4, 3);
        x.pass(60);
        check.due("override(0, 0, 1)", x.override(0, 0, 1), 3);
        check.due("onCall(0, 0)", x.onCall(0, 0), 0);
        check.due("onCall(60, 0)", x.onCall(60, 0), 4);
        check.due("onCall(119, 0)", x.onCall(119, 0), 4);
        check.due("onCall(120, 0)", x.onCall(120, 0), 2);
        check.due("onCall(179, 0)", x.onCall(179, 0), 2);
        check.due("onCall(180, 0)", x.onCall(180, 0), 0);
    }

    private static void rotaAt() {
        check.about("promise 9");
        PageRotas x = house(3);
        x.region(0, 12, 1);
        check.due("rotaAt(0, 0)", x.rotaAt(0, 0), NOT_FOUND);
        x.join(0, 2);
        x.join(0, 0);
        check.due("rotaAt(0, 0)", x.rotaAt(0, 0), 2);
        check.due("rotaAt(0, 1)", x.rotaAt(0, 1), 0);
        check.due("rotaAt(0, 2)", x.rotaAt(0, 2), NOT_FOUND);
        check.due("rotaAt(0, 5)", x.rotaAt(0, 5), NOT_FOUND);
        check.due("rotaAt(0, MAX)", x.rotaAt(0, Integer.MAX_VALUE), NOT_FOUND);
        check.due("rotaAt(0, -1)", x.rotaAt(0, -1), INVALID);
        check.due("rotaAt(-1, 0)", x.rotaAt(-1, 0), INVALID);
        check.due("rotaAt(1, 0)", x.rotaAt(1, 0), INVALID);
    }

    private static void personOf() {
        check.about("promise 10");
        PageRotas x = house(2);
        x.region(0, 23, 24);
        x.region(1, 3, 1);
        x.region(4, 6, 1);
        x.join(0, 0);
        x.join(2, 0);
        x.join(2, 1);
        check.due("personOf(0, 4)", x.personOf(0, 4), 5);
        check.due("personOf(1, 4)", x.personOf(1, 4), 4);
        x.alert(1, 1);
        x.alert(2, 1);
        x.alert(3, 1);
        check.due("personOf(0, 0)", x.personOf(0, 0), 3);
        check.due("personOf(0, 1)", x.personOf(0, 1), 3);
        check.due("personOf(0, 2)", x.personOf(0, 2), 0);
        x.acknowledge(1);
        check.due("personOf(0, 1)", x.personOf(0, 1), 3);
        check.due("personOf(0, 2)", x.personOf(0, 2), 1);
        x.pass(10);
        check.due("escalated ones count as pages", x.personOf(0, 0), 5);
        x.resolve(1);
        check.due("personOf(0, 1)", x.personOf(0, 1), 2);
        check.due("personOf(0, 2)", x.personOf(0, 2), 0);
        check.due("personOf(0, 3)", x.personOf(0, 3), 1);
        check.due("pages stay", x.personOf(0, 0), 5);
        x.resolve(0);
        check.due("personOf(0, 3)", x.personOf(0, 3), 2);
        check.due("personOf(1, 3)", x.personOf(1, 3), 0);
        check.due("personOf(-1, 0)", x.personOf(-1, 0), INVALID);
        check.due("personOf(2, 0)", x.personOf(2, 0), INVALID);
        check.due("personOf(8, 0)", x.personOf(8, 0), INVALID);
        check.due("personOf(0, -1)", x.personOf(0, -1), INVALID);
        check.due("personOf(0, 7)", x.personOf(0, 7), INVALID);
    }

    private static void personOfPresentHour() {
        check.about("promise 10, the present hour");
        PageRotas x = house(1);
        x.quiet(0, 22, 2);
        for (int hour = 0; hour < 50; hour++) {
            int due = hour % 24 < 2 || hour % 24 >= 22 ? 1 : 0;
            check.due("personOf(0, 5) in hour " + hour, x.personOf(0, 5), due);
            x.pass(59);
            check.due("personOf(0, 5) at its end", x.personOf(0, 5), due);
            x.pass(1);
        }
    }
}
