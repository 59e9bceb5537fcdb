/** The section "Changes and errors". */
final class ChangeTerms extends Section {
    private static final String[] CHANGES = {
        "person()", "region(3, 4, 5)", "join(0, 3)", "leave(0, 1)", "quiet(1, 0, 5)", "except(0, 3)",
        "override(0, 1, 1)", "alert(2, 2)", "alert(3, 2)", "acknowledge(1)", "resolve(1)", "pass(600)", "set(0, 7)",
        "set(1, 7)", "play()",
    };

    ChangeTerms(Sentences sentences) {
        super(sentences);
    }

    @Override
    void ask() {
        section("Changes and errors");
        changes();
        history();
        records();
        oldestOne();
        severalErrors();
        errorsChangeNothing();
        unknownNumbers();
        constants();
    }

    /** Something of everything, so that each change is possible; the second region is on call, up to hour 3. */
    private PageRotas busy() {
        PageRotas x = people(3);
        go(x, "region(0, 1, 2)", "region(1, 3, 2)");
        joinAll(x, 0, 2);
        joinAll(x, 1, 3);
        go(x, "quiet(0, 0, 2)", "except(1, 4)", "set(0, 5)", "pass(50)", "alert(1, 0)", "alert(2, 1)", "pass(7)");
        go(x, "alert(2, 1)", "pass(3)", "override(1, 2, 1)", "person()");
        write(x, "r0;t99;a3,1;");
        return x;
    }

    private void changes() {
        sentence("The changes are the calls of person, region, join, leave, quiet, except, override, alert, "
            + "acknowledge, resolve, pass, set and play that return no error.");
        for (String change : CHANGES) {
            PageRotas x = busy();
            go(x, "set(1, 50)", "undo()", change);
            due("count(14) after " + change, call(x, "count(14)"), 4);
        }
        String[] others = {
            "rotaAt(0, 0)", "personOf(0, 0)", "incidentOf(0, 0)", "count(0)", "onCall(0, 0)", "uncovered()",
            "later(0, 600, 1)", "type(65)", "fault(0)", "clearText()", "fault(0)", "acknowledgeBits()",
            "unownedBits()",
        };
        PageRotas y = busy();
        go(y, "acknowledge(1)", "undo()");
        for (String other : others) {
            call(y, other);
            due("count(14) after " + other, call(y, "count(14)"), 3);
        }
        String[] errors = {
            "region(1, 1, 1)", "join(0, 0)", "leave(0, 3)", "quiet(0, 24, 0)", "except(0, 20)", "override(0, 0, 0)",
            "alert(20, 0)", "acknowledge(5)", "resolve(5)", "pass(0)", "set(0, 0)",
        };
        for (String error : errors) {
            due(error + " is an error", call(y, error) < 0 ? 1 : 0, 1);
            due("count(14) after " + error, call(y, "count(14)"), 3);
        }
        write(y, "x");
        due(y, "play()", NOT_POSSIBLE);
        due("count(14) after play() with a fault", call(y, "count(14)"), 3);
        PageRotas z = people(8);
        go(z, "set(0, 5)", "undo()");
        due(z, "person()", LIMIT);
        due("count(14) after a ninth person", call(z, "count(14)"), 3);
    }

    private void history() {
        sentence("A history of at most 4 states is kept:");
        PageRotas x = new PageRotas();
        for (int i = 0; i < 12; i++) {
            due(x, "count(14)", Math.min(i, 4));
            go(x, "set(1, " + i + ")");
        }
        for (int left = 3; left >= 0; left--) {
            due(x, "undo()", left);
        }
        due(x, "undo()", NOT_POSSIBLE);
    }

    private void records() {
        sentence("each change records everything before it but the text,");
        for (String change : CHANGES) {
            PageRotas x = busy();
            go(x, change);
            due("something is changed by " + change, told(x).equals(told(busy())) ? 1 : 0, 0);
            PageRotas y = busy();
            go(y, change, "undo()");
            due("everything is as it was before " + change, told(y).equals(told(busy())) ? 1 : 0, 1);
            due("the text stays", call(y, "count(15)"), 12);
            PageRotas then = busy();
            go(then, "pass(1)");
            go(y, "pass(1)");
            due("what comes is as it was before " + change, told(y).equals(told(then)) ? 1 : 0, 1);
        }
        overridesRecorded();
        PageRotas z = new PageRotas();
        go(z, "type(116)", "set(0, 5)", "type(49)", "type(59)", "undo()");
        due("the text is that of now", call(z, "count(15)"), 3);
        due("the text is that of now", call(z, "play()"), 1);
        go(z, "clearText()", "undo()");
        due("the text is that of now", call(z, "count(15)"), 0);
    }

    private void overridesRecorded() {
        PageRotas x = people(2);
        go(x, "region(0, 5, 24)", "region(5, 9, 24)", "join(0, 0)", "join(1, 0)", "override(0, 1, 1)", "pass(60)");
        go(x, "override(1, 1, 9)", "undo()");
        due("it had ended", call(x, "count(13)"), 0);
        go(x, "undo()");
        due("an override ahead of its end", call(x, "count(13)"), 1);
        due("of its region", call(x, "onCall(0, 0)"), 1);
        due("of its region", call(x, "onCall(300, 0)"), 0);
    }

    private void oldestOne() {
        sentence("and if there are 5 states then, the oldest one is dropped.");
        for (int changes = 4; changes <= 11; changes++) {
            PageRotas x = new PageRotas();
            for (int i = 1; i <= changes; i++) {
                go(x, "set(1, " + (100 + i) + ")");
            }
            for (int i = 1; i <= 4; i++) {
                go(x, "undo()");
                due("the setting after undo " + i + " of " + changes, call(x, "count(21)"),
                    changes == i ? 30 : 100 + changes - i);
            }
            due(x, "undo()", NOT_POSSIBLE);
        }
        PageRotas y = new PageRotas();
        go(y, "set(1, 1)", "set(1, 2)", "set(1, 3)", "set(1, 4)", "set(1, 5)", "undo()", "undo()", "set(1, 6)");
        int[] settings = {3, 2, 1};
        for (int i = 0; i < 3; i++) {
            due(y, "undo()", 2 - i);
            due("changes after undo: the setting", call(y, "count(21)"), settings[i]);
        }
    }

    /** Nothing is left to be taken: each call that has a limit is at it. */
    private PageRotas full() {
        PageRotas x = people(8);
        go(x, "region(0, 12, 1)", "region(12, 0, 2)", "region(5, 6, 3)");
        joinAll(x, 0, 5);
        for (int i = 0; i < 6; i++) {
            go(x, "override(1, " + i + ", 99)");
        }
        for (int i = 0; i < 8; i++) {
            go(x, "alert(" + i + ", 1)");
        }
        go(x, "acknowledge(1)");
        passTo(x, 601);
        write(x, "t600;x");
        return x;
    }

    private void severalErrors() {
        sentence("If several errors apply to a call, INVALID_ARGUMENT is returned rather than NOT_POSSIBLE,");
        PageRotas x = full();
        due("nobody is in it, and there is no such person", call(x, "leave(2, 8)"), INVALID);
        due(x, "leave(3, 0)", INVALID);
        due(x, "join(0, 8)", INVALID);
        due(x, "acknowledge(8)", INVALID);
        sentence("NOT_POSSIBLE rather than LIMIT_REACHED,");
        dueForEach(x, "join(0, %)", range(0, 4), NOT_POSSIBLE);
        dueForEach(x, "join(0, %)", range(5, 7), LIMIT);
        dueForEach(x, "join(0, %)", outside(0, 7), INVALID);
        sentence("and LIMIT_REACHED rather than NOT_FOUND.");
        due("no call can have both; INVALID_ARGUMENT goes ahead of each", call(x, "region(5, 5, 1)"), INVALID);
        due(x, "region(5, 6, 1)", LIMIT);
        due(x, "override(3, 0, 1)", INVALID);
        due(x, "override(0, 0, 100)", INVALID);
        due(x, "override(0, 0, 1)", LIMIT);
        due(x, "alert(20, 0)", INVALID);
        due(x, "alert(8, 3)", INVALID);
        due(x, "alert(8, 2)", LIMIT);
        due(x, "incidentOf(0, 12)", INVALID);
        due(x, "later(0, 1, 3)", INVALID);
        due(x, "rotaAt(3, 9)", INVALID);
        due(x, "rotaAt(2, -1)", INVALID);
        due(x, "onCall(30001, 0)", INVALID);
        due(x, "fault(2)", INVALID);
        PageRotas y = new PageRotas();
        passTo(y, 30000);
        due(y, "pass(601)", INVALID);
        due(y, "pass(0)", INVALID);
        due(y, "pass(1)", LIMIT);
        due("there is no region on call", call(y, "onCall(0, 10)"), INVALID);
        due("there is no fault", call(y, "fault(2)"), INVALID);
        PageRotas z = new PageRotas();
        write(z, "00000000001111111111222222222233333333334444444444555555555566666666667777777777");
        due(z, "type(31)", INVALID);
        due(z, "type(127)", INVALID);
        due(z, "type(32)", LIMIT);
    }

    private void errorsChangeNothing() {
        sentence("A call that returns an error changes nothing.");
        String[] ofBusy = {
            "region(-1, 5, 1)", "region(1, 1, 1)", "region(1, 2, 25)", "join(0, 0)", "join(1, 0)", "join(0, 4)",
            "leave(0, 3)", "leave(2, 0)", "quiet(0, 24, 0)", "quiet(0, 0, -1)", "quiet(4, 0, 5)", "except(0, 20)",
            "except(4, 0)", "override(0, 0, 0)", "override(0, 4, 1)", "override(2, 0, 1)", "alert(20, 0)",
            "alert(1, 3)", "acknowledge(0)", "acknowledge(2)", "resolve(2)", "pass(0)", "pass(601)", "set(0, 0)",
            "set(0, 121)", "set(1, 601)", "set(2, 5)", "type(31)", "type(127)", "personOf(0, 7)", "count(16)",
            "later(0, 0, 0)", "fault(2)", "onCall(0, 10)",
        };
        String busy = told(busy());
        PageRotas undone = busy();
        go(undone, "undo()");
        String before = told(undone);
        for (String error : ofBusy) {
            dueUnchanged(busy(), error, busy, before, 12);
        }
        String[] ofFull = {
            "person()", "region(1, 2, 1)", "join(0, 6)", "override(0, 0, 1)", "alert(19, 2)", "acknowledge(1)",
            "play()", "type(31)",
        };
        String full = told(full());
        undone = full();
        go(undone, "undo()");
        before = told(undone);
        for (String error : ofFull) {
            dueUnchanged(full(), error, full, before, 6);
        }
        dueUnchangedAtTheEnd();
    }

    private void dueUnchanged(PageRotas x, String error, String now, String before, int length) {
        due(error + " is an error", call(x, error) < 0 ? 1 : 0, 1);
        due("the state after " + error + " is the same", told(x).equals(now) ? 1 : 0, 1);
        due("the text after " + error, call(x, "count(15)"), length);
        due("the history after " + error, call(x, "undo()"), 3);
        due("the state before, after " + error, told(x).equals(before) ? 1 : 0, 1);
    }

    private void dueUnchangedAtTheEnd() {
        PageRotas x = dayAndNight(1);
        passTo(x, 29995);
        go(x, "alert(1, 1)");
        due(x, "pass(6)", LIMIT);
        due(x, "count(2)", 29995);
        due(x, "incidentOf(0, 9)", 29995);
        due(x, "count(14)", 4);
        due(x, "pass(5)", 0);
        due(x, "acknowledge(0)", 5);
        due(x, "acknowledge(0)", NOT_POSSIBLE);
        due(x, "incidentOf(0, 4)", 1);
        due("done once only", call(x, "acknowledgeBits()"), Float.floatToIntBits(5f));
        write(x, "a2,1;r0;r0;");
        due(x, "play()", NOT_POSSIBLE);
        due("what is ahead of the fault is not done", call(x, "count(3)"), 1);
        due("what is ahead of the fault is not done", call(x, "count(6)"), 1);
    }

    private void unknownNumbers() {
        sentence("If there is no person, region or open incident with a certain number, this is INVALID_ARGUMENT.");
        PageRotas x = people(7);
        go(x, "region(0, 12, 1)", "region(12, 0, 1)", "alert(1, 1)", "alert(2, 1)", "alert(3, 1)", "resolve(1)");
        String[] ofPeople = {
            "join(0, %)", "leave(0, %)", "quiet(%, 0, 5)", "except(%, 0)", "override(0, %, 1)", "personOf(%, 0)",
        };
        for (String call : ofPeople) {
            dueForEach(x, call, outside(0, 6), INVALID);
        }
        for (String call : new String[] {"join(%, 0)", "leave(%, 0)", "override(%, 0, 1)", "rotaAt(%, 0)"}) {
            dueForEach(x, call, outside(0, 1), INVALID);
        }
        for (String call : new String[] {"acknowledge(%)", "resolve(%)", "incidentOf(%, 3)", "later(%, 1, 0)"}) {
            dueForEach(x, call, outside(0, 2), INVALID);
            due("a resolved one", call(x, call.replace("%", "1")), INVALID);
            dueForEach(x, call, range(3, 8), INVALID);
        }
        due("none of these calls has changed anything", call(x, "count(3)"), 2);
    }

    private void constants() {
        PageRotas x = watch(1, 1);
        sentence("The constants: `INVALID_ARGUMENT = -1`: An argument is out of its range, or there is no such person, "
            + "region or incident.");
        due("INVALID_ARGUMENT", PageRotas.INVALID_ARGUMENT, -1);
        due(x, "set(0, 0)", -1);
        due(x, "personOf(1, 0)", -1);
        due(x, "rotaAt(1, 0)", -1);
        due(x, "resolve(0)", -1);
        sentence("`NOT_POSSIBLE = -2`: The call is not possible in the present state.");
        due("NOT_POSSIBLE", PageRotas.NOT_POSSIBLE, -2);
        due(x, "join(0, 0)", -2);
        sentence("`LIMIT_REACHED = -3`: A fixed limit has been reached.");
        due("LIMIT_REACHED", PageRotas.LIMIT_REACHED, -3);
        due(people(8), "person()", -3);
        sentence("`NOT_FOUND = -4`: There is no such value.");
        due("NOT_FOUND", PageRotas.NOT_FOUND, -4);
        due(x, "rotaAt(0, 1)", -4);
        leaveOut("Ahead of the calls `person`, `region`, `join`, `leave`, `quiet`, `except`, `override`, `rotaAt`, "
            + "`personOf` the interface says: ---- people, regions.");
        leaveOut("Ahead of the calls `alert`, `acknowledge`, `resolve`, `pass`, `set`, `incidentOf`, `count` the "
            + "interface says: ---- alerts, incidents.");
        leaveOut("Ahead of the calls `onCall`, `uncovered`, `later`, `acknowledgeBits`, `unownedBits`, `undo` the "
            + "interface says: ---- who is on call, what will be.");
        leaveOut("Ahead of the calls `type`, `clearText`, `fault`, `play` the interface says: ---- texts.");
    }
}
