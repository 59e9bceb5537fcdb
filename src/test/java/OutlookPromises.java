/** The sections "Promise 18" to "Promise 23": who will be on call, what will be, means, shares, undo. */
final class OutlookPromises extends Section {
    OutlookPromises(Sentences sentences) {
        super(sentences);
    }

    @Override
    void ask() {
        onCall();
        onCallArguments();
        uncovered();
        later();
        laterArguments();
        laterAnswers();
        acknowledgeBits();
        acknowledgeBitsOfSome();
        unownedBits();
        smallAndGreatShares();
        undo();
    }

    private void onCall() {
        section("Promise 18");
        sentence("`int onCall(int minutes, int level)`: Tells who is on call some minutes from now on, by the rotas "
            + "and overrides as they are now.");
        PageRotas x = watch(3, 1);
        due("now", call(x, "onCall(0, 0)"), 0);
        due(x, "onCall(59, 0)", 0);
        due(x, "onCall(60, 0)", 1);
        go(x, "pass(61)");
        due("now", call(x, "onCall(0, 0)"), 1);
        due(x, "onCall(58, 0)", 1);
        due("from now on, not from the time 0", call(x, "onCall(59, 0)"), 2);
        go(x, "person()", "join(0, 3)");
        due("a rota as it is now", call(x, "onCall(119, 0)"), 3);
        go(x, "leave(0, 3)");
        due("a rota as it is now", call(x, "onCall(119, 0)"), 0);
        go(x, "override(0, 3, 2)");
        due("an override as it is now", call(x, "onCall(119, 0)"), 3);
        due("it will have ended", call(x, "onCall(120, 0)"), 0);
        go(x, "undo()");
        due(x, "onCall(119, 0)", 0);
        go(x, "alert(1, 1)", "set(0, 3)", "quiet(0, 0, 23)");
        due("quiet hours are nothing to it", call(x, "onCall(119, 0)"), 0);
        due("nothing has come of asking", call(x, "count(2)"), 61);
    }

    private void onCallArguments() {
        sentence("- `minutes`: 0 to 30000");
        PageRotas x = dayAndNight(4);
        due(x, "onCall(0, 0)", 0);
        due(x, "onCall(30000, 0)", 500 / 24 % 4);
        dueForEach(x, "onCall(%, 0)", outside(0, 30000), INVALID);
        dueForEach(x, "onCall(%, -1)", outside(0, 30000), INVALID);
        passTo(x, 30000);
        due("from the last time on", call(x, "onCall(30000, 0)"), 1000 / 24 % 4);
        due("from the last time on", call(x, "onCall(30000, -1)"), 1000 % 24 / 12);
        sentence("- `level`: 0 to 9; -1 for the region on call");
        PageRotas y = people(7);
        go(y, "region(12, 0, 1)", "region(0, 12, 24)", "join(0, 5)", "join(1, 6)", "join(1, 4)", "join(1, 2)");
        int[] rota = {6, 4, 2};
        for (int level = 0; level <= 9; level++) {
            due(y, "onCall(0, " + level + ")", rota[level % 3]);
        }
        due(y, "onCall(0, -1)", 1);
        due(y, "onCall(719, -1)", 1);
        due(y, "onCall(720, -1)", 0);
        dueForEach(y, "onCall(0, %)", outside(-1, 9), INVALID);
        sentence("Returns the number of the person, or of the region;");
        due(y, "onCall(0, 1)", 4);
        due(y, "onCall(0, -1)", 1);
        sentence("INVALID_ARGUMENT if an argument is out of range;");
        due("without a region, too", call(new PageRotas(), "onCall(0, 10)"), INVALID);
        due(new PageRotas(), "onCall(0, -2)", INVALID);
        due(new PageRotas(), "onCall(30001, 0)", INVALID);
        due(new PageRotas(), "onCall(-1, -1)", INVALID);
        sentence("NOT_FOUND if there is no region on call then.");
        PageRotas z = watch(1, 24);
        go(z, "override(0, 0, 99)");
        int[] minutes = {1380, 1439, 1380 + 1440, 1439 + 1440};
        for (int m : minutes) {
            due(z, "onCall(" + m + ", -1)", NOT_FOUND);
            due("an override is no region", call(z, "onCall(" + m + ", 0)"), NOT_FOUND);
            due(z, "onCall(" + m + ", 9)", NOT_FOUND);
        }
        due(z, "onCall(1379, 0)", 0);
        due(z, "onCall(1440, 0)", 0);
        due(new PageRotas(), "onCall(0, 0)", NOT_FOUND);
    }

    private void uncovered() {
        section("Promise 19");
        sentence("`int uncovered()`: Counts the hours of the day that no region covers.");
        PageRotas x = people(1);
        go(x, "region(22, 4, 1)", "region(2, 6, 1)", "join(0, 0)");
        due("an empty rota covers none", call(x, "uncovered()"), 18);
        go(x, "join(1, 0)");
        due("those of both are counted once", call(x, "uncovered()"), 16);
        go(x, "leave(0, 0)");
        due(x, "uncovered()", 20);
        passTo(x, 601);
        due("at each time the same", call(x, "uncovered()"), 20);
        go(x, "override(0, 0, 5)");
        due("an override covers none", call(x, "uncovered()"), 20);
        sentence("Returns how many, 0 to 24.");
        due(new PageRotas(), "uncovered()", 24);
        due(dayAndNight(1), "uncovered()", 0);
        due(watch(1, 1), "uncovered()", 1);
        for (int from = 0; from <= 23; from++) {
            for (int hours = 1; hours <= 23; hours++) {
                PageRotas y = people(1);
                go(y, "region(" + from + ", " + (from + hours) % 24 + ", 1)", "join(0, 0)");
                due("uncovered() but for " + hours + " hours from " + from, call(y, "uncovered()"), 24 - hours);
            }
        }
    }

    private PageRotas evening() {
        PageRotas x = people(2);
        go(x, "region(0, 2, 24)");
        joinAll(x, 0, 2);
        go(x, "alert(1, 1)");
        return x;
    }

    private void later() {
        section("Promise 20");
        sentence("`int later(int incident, int minutes, int what)`: Tells what would become of an incident in some "
            + "minutes, if nothing else happened (also beyond the time 30000).");
        PageRotas x = busy();
        String before = told(x);
        due(x, "later(0, 600, 1)", call(x, "later(0, 600, 1)"));
        due("nothing has come of it", told(x).equals(before) ? 1 : 0, 1);
        int[] minutes = {1, 9, 10, 59, 60, 119, 120, 121, 239, 240, 599, 600};
        int[] parts = {3, 2, 8};
        for (int m : minutes) {
            for (int incident = 0; incident <= 2; incident++) {
                PageRotas then = busy();
                go(then, "pass(" + m + ")");
                for (int what = 0; what <= 2; what++) {
                    int want = call(then, "incidentOf(" + incident + ", " + parts[what] + ")");
                    due(busy(), "later(" + incident + ", " + m + ", " + what + ")", want);
                }
            }
        }
        laterOfTheSecondRegion();
        PageRotas y = watch(1, 24);
        passTo(y, 30000);
        go(y, "alert(1, 2)");
        due("hour 500 is the hour 20 of its day", call(y, "later(0, 179, 1)"), 17);
        due(y, "later(0, 179, 0)", 0);
        due("hour 503 is the hour 23", call(y, "later(0, 180, 0)"), NOT_FOUND);
        due(y, "later(0, 180, 1)", 0);
        due(y, "later(0, 240, 0)", 0);
        due(y, "later(0, 240, 2)", 60);
        due(y, "later(0, 600, 1)", 36);
        due(y, "count(2)", 30000);
    }

    private void laterOfTheSecondRegion() {
        PageRotas x = people(4);
        go(x, "region(0, 1, 24)", "region(1, 3, 24)", "join(0, 0)", "join(1, 1)", "join(1, 2)", "alert(1, 1)");
        go(x, "pass(65)", "override(1, 3, 1)", "alert(2, 1)");
        due("owned by the second region", call(x, "later(0, 4, 0)"), 1);
        due("escalated, not handed off", call(x, "later(0, 5, 0)"), 2);
        due("escalated, not handed off", call(x, "later(0, 5, 1)"), 1);
        due("by its override", call(x, "later(1, 9, 0)"), 3);
        due("by its rota", call(x, "later(1, 10, 0)"), 2);
        due("handed off to nobody", call(x, "later(0, 115, 0)"), NOT_FOUND);
    }

    /** Regions, quiet hours, an override, and three incidents, one of which is acknowledged. */
    private PageRotas busy() {
        PageRotas x = people(4);
        go(x, "region(0, 2, 1)", "region(3, 9, 1)", "join(0, 0)", "join(0, 1)", "join(1, 2)", "join(1, 0)");
        go(x, "quiet(1, 1, 4)", "override(0, 3, 1)", "alert(1, 0)", "alert(2, 1)", "pass(3)", "acknowledge(1)");
        go(x, "quiet(3, 0, 5)", "alert(3, 0)");
        return x;
    }

    private void laterArguments() {
        sentence("- `incident`: number of the incident");
        PageRotas x = evening();
        go(x, "alert(2, 1)");
        due(x, "later(1, 10, 0)", 1);
        dueForEach(x, "later(%, 10, 0)", outside(0, 1), INVALID);
        dueForEach(x, "later(%, 10, 0)", range(2, 8), INVALID);
        sentence("- `minutes`: 1 to 600");
        due(x, "later(0, 1, 0)", 0);
        due(x, "later(0, 600, 0)", NOT_FOUND);
        due(x, "later(0, 600, 2)", 480);
        dueForEach(x, "later(0, %, 2)", outside(1, 600), INVALID);
    }

    private void laterAnswers() {
        sentence("- `what`: 0: its owner;");
        PageRotas x = evening();
        due(x, "later(0, 9, 0)", 0);
        due(x, "later(0, 10, 0)", 1);
        due(x, "later(0, 119, 0)", 1);
        sentence("1: its level;");
        due(x, "later(0, 9, 1)", 0);
        due(x, "later(0, 10, 1)", 1);
        due(x, "later(0, 119, 1)", 11);
        due(x, "later(0, 120, 1)", 0);
        sentence("2: its time unowned");
        due(x, "later(0, 120, 2)", 0);
        due(x, "later(0, 121, 2)", 1);
        due(x, "later(0, 600, 2)", 480);
        go(x, "pass(125)");
        due("with that so far", call(x, "later(0, 1, 2)"), 6);
        sentence("Returns the number;");
        due(x, "later(0, 600, 2)", 605);
        sentence("INVALID_ARGUMENT if an argument is out of range;");
        dueForEach(x, "later(0, 1, %)", outside(0, 2), INVALID);
        due(x, "later(1, 1, 0)", INVALID);
        due(x, "later(0, 0, 0)", INVALID);
        due(x, "later(0, 601, 0)", INVALID);
        sentence("NOT_FOUND for 0 if it would have none.");
        due(x, "later(0, 1, 0)", NOT_FOUND);
        due(x, "later(0, 1, 1)", 0);
        due(evening(), "later(0, 119, 0)", 1);
        due(evening(), "later(0, 120, 0)", NOT_FOUND);
        PageRotas y = watch(2, 24);
        go(y, "quiet(1, 0, 1)", "alert(1, 0)");
        due("escalated to quiet hours", call(y, "later(0, 10, 0)"), NOT_FOUND);
        due("until they end", call(y, "later(0, 59, 0)"), NOT_FOUND);
        due("until they end", call(y, "later(0, 60, 0)"), 1);
        due(y, "later(0, 60, 2)", 50);
    }

    private void acknowledgeBits() {
        section("Promise 21");
        sentence("`int acknowledgeBits()`: Returns the bits of the mean time of acknowledging as a float: the minutes "
            + "from pages to acknowledging, of all times it was done, together as a float, divided by how often as "
            + "a float.");
        PageRotas x = dayAndNight(1);
        go(x, "set(0, 120)");
        int sum = 0;
        for (int times = 1; times <= 60; times++) {
            int minutes = times * 37 % 120;
            go(x, "alert(" + times % 20 + ", 1)");
            if (minutes > 0) {
                go(x, "pass(" + minutes + ")");
            }
            sum += call(x, "acknowledge(0)");
            due("acknowledgeBits() of " + sum + " in " + times, call(x, "acknowledgeBits()"),
                Float.floatToIntBits((float) sum / (float) times));
            go(x, "resolve(0)");
        }
        due("of resolved ones, too", call(x, "acknowledgeBits()"), Float.floatToIntBits((float) sum / 60f));
        PageRotas y = dayAndNight(2);
        go(y, "alert(1, 1)", "pass(13)", "acknowledge(0)");
        due("from the latest page on", call(y, "acknowledgeBits()"), Float.floatToIntBits(3f));
        passTo(y, 724);
        due("that of a hand-off", call(y, "acknowledge(0)"), 4);
        due("each time of one incident", call(y, "acknowledgeBits()"), Float.floatToIntBits(7f / 2f));
    }

    private void acknowledgeBitsOfSome() {
        sentence("Returns the bits;");
        PageRotas z = watch(1, 24);
        go(z, "alert(1, 1)", "acknowledge(0)");
        due("of 0 minutes", call(z, "acknowledgeBits()"), 0);
        go(z, "alert(2, 1)", "pass(1)", "acknowledge(1)");
        due("of a half", call(z, "acknowledgeBits()"), 0x3F000000);
        go(z, "alert(3, 1)", "pass(2)", "acknowledge(2)");
        due("of 1", call(z, "acknowledgeBits()"), 0x3F800000);
        go(z, "alert(4, 1)", "acknowledge(3)", "alert(5, 1)", "alert(6, 1)", "acknowledge(4)");
        due("of 0.6", call(z, "acknowledgeBits()"), 0x3F19999A);
        sentence("NOT_FOUND if nothing was acknowledged so far.");
        PageRotas w = watch(1, 24);
        due(w, "acknowledgeBits()", NOT_FOUND);
        go(w, "alert(1, 1)", "pass(5)");
        due(w, "acknowledgeBits()", NOT_FOUND);
        call(w, "acknowledge(1)");
        due("one that is refused is none", call(w, "acknowledgeBits()"), NOT_FOUND);
        go(w, "acknowledge(0)", "undo()");
        due("one that is undone is none", call(w, "acknowledgeBits()"), NOT_FOUND);
    }

    private void unownedBits() {
        section("Promise 22");
        sentence("`int unownedBits()`: Returns the bits of a share as a float: of the minutes that incidents were open "
            + "so far (of each from its first alert on), those that they were unowned; both are made doubles, "
            + "divided, and the quotient is made a float.");
        for (int ahead = 1; ahead <= 20; ahead++) {
            PageRotas x = new PageRotas();
            go(x, "pass(7)", "alert(1, 1)", "pass(" + ahead + ")", "alert(1, 1)");
            go(x, "person()", "region(0, 23, 24)", "join(0, 0)");
            for (int behind = 1; behind <= 30; behind++) {
                go(x, "pass(1)");
                due("unownedBits() of " + (ahead + 1) + " in " + (ahead + behind), call(x, "unownedBits()"),
                    share(ahead + 1, ahead + behind));
            }
        }
        PageRotas y = new PageRotas();
        go(y, "alert(1, 1)", "pass(2)", "alert(2, 1)", "pass(3)");
        go(y, "person()", "region(0, 23, 24)", "join(0, 0)", "pass(1)");
        due("5 + 3 minutes, and 1 each", call(y, "unownedBits()"), share(10, 10));
        go(y, "pass(4)");
        due("of all incidents together", call(y, "unownedBits()"), share(10, 18));
        go(y, "resolve(0)", "pass(4)");
        due("a resolved one is open no longer", call(y, "unownedBits()"), share(10, 22));
        go(y, "resolve(1)", "pass(400)");
        due("none is open", call(y, "unownedBits()"), share(10, 22));
        sentence("Returns the bits;");
        due("of 10 in 22", call(y, "unownedBits()"), 0x3EE8BA2F);
        PageRotas z = watch(1, 24);
        go(z, "alert(1, 1)", "pass(1)");
        due("of 0", call(z, "unownedBits()"), 0);
        PageRotas w = new PageRotas();
        go(w, "alert(1, 1)", "pass(1)");
        due("of 1", call(w, "unownedBits()"), 0x3F800000);
        sentence("NOT_FOUND if there were no such minutes.");
        PageRotas v = new PageRotas();
        due(v, "unownedBits()", NOT_FOUND);
        go(v, "pass(600)");
        due("without incidents", call(v, "unownedBits()"), NOT_FOUND);
        go(v, "alert(1, 1)");
        due("in the minute of the alert", call(v, "unownedBits()"), NOT_FOUND);
        go(v, "resolve(0)", "pass(1)");
        due("resolved in the minute of the alert", call(v, "unownedBits()"), NOT_FOUND);
        go(v, "alert(1, 1)", "pass(1)", "undo()");
        due("undone", call(v, "unownedBits()"), NOT_FOUND);
    }

    private static int share(int unowned, int open) {
        return Float.floatToIntBits((float) ((double) unowned / (double) open));
    }

    private void smallAndGreatShares() {
        sentence("both are made doubles, divided, and the quotient is made a float.");
        PageRotas x = dayAndNight(1);
        go(x, "quiet(0, 0, 23)", "alert(9, 0)", "undo()", "quiet(0, 0, 23)", "alert(9, 0)", "quiet(0, 0, 0)");
        for (int i = 0; i < 7; i++) {
            go(x, "alert(" + i + ", 1)");
        }
        for (int i = 1; i <= 30000; i += 251) {
            passTo(x, i);
            due("unownedBits() of 1 in " + 8 * i, call(x, "unownedBits()"), share(1, 8 * i));
        }
        PageRotas y = people(1);
        for (int i = 0; i < 8; i++) {
            go(y, "alert(" + i + ", 1)");
        }
        passTo(y, 29000);
        go(y, "region(0, 12, 1)", "region(12, 0, 1)", "join(0, 0)", "join(1, 0)");
        for (int i = 29001; i <= 30000; i += 37) {
            passTo(y, i);
            due("unownedBits() of 232008 in " + 8 * i, call(y, "unownedBits()"), share(232008, 8 * i));
        }
    }

    private void undo() {
        section("Promise 23");
        sentence("`int undo()`: Restores the latest state of the history, which is removed from it.");
        PageRotas x = new PageRotas();
        go(x, "set(1, 1)", "set(1, 2)", "set(1, 3)", "undo()");
        due(x, "count(21)", 2);
        due(x, "count(14)", 2);
        go(x, "undo()");
        due(x, "count(21)", 1);
        go(x, "set(1, 4)", "undo()");
        due("a change behind an undone one", call(x, "count(21)"), 1);
        go(x, "undo()");
        due(x, "count(21)", 30);
        PageRotas y = evening();
        go(y, "pass(600)", "undo()");
        due("the time", call(y, "count(2)"), 0);
        due("the incident", call(y, "incidentOf(0, 3)"), 0);
        due("the pages", call(y, "count(8)"), 1);
        sentence("Returns the number of states that are left in the history;");
        PageRotas z = people(8);
        for (int left = 3; left >= 0; left--) {
            due(z, "undo()", left);
            due(z, "count(14)", left);
            due(z, "count(0)", 4 + left);
        }
        sentence("NOT_POSSIBLE if it is empty.");
        due(z, "undo()", NOT_POSSIBLE);
        due("no more than 4 states back", call(z, "count(0)"), 4);
        due(new PageRotas(), "undo()", NOT_POSSIBLE);
        go(z, "person()");
        due(z, "undo()", 0);
        due(z, "undo()", NOT_POSSIBLE);
    }
}
