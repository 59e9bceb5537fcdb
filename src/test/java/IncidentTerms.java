/** The sections "Incidents", "A minute" and "Settings". */
final class IncidentTerms extends Section {
    IncidentTerms(Sentences sentences) {
        super(sentences);
    }

    @Override
    void ask() {
        section("Incidents");
        openIncidents();
        partsOfAnIncident();
        folding();
        newOnes();
        peopleLookedAt();
        nobodyFound();
        somebodyFound();
        pagedAtOnce();
        section("A minute");
        time();
        openOnesOnly();
        unowned();
        handOffs();
        handOffsToNobody();
        pagesForUnowned();
        escalation();
        section("Settings");
        settings();
    }

    private void openIncidents() {
        sentence("At most 8 incidents are open, with numbers 0 to 7;");
        PageRotas x = watch(1, 1);
        dueForEach(x, "incidentOf(%, 0)", range(0, 8), INVALID);
        for (int i = 0; i < 8; i++) {
            due(x, "alert(" + (10 + i) + ", 0)", i);
            due(x, "count(3)", i + 1);
        }
        due(x, "alert(1, 0)", LIMIT);
        for (int i = 0; i < 8; i++) {
            due(x, "incidentOf(" + i + ", 0)", 10 + i);
        }
        due(x, "incidentOf(8, 0)", INVALID);
        sentence("a new one gets the lowest number that none has.");
        go(x, "resolve(7)", "resolve(2)", "resolve(5)");
        due(x, "alert(1, 0)", 2);
        due(x, "alert(2, 0)", 5);
        go(x, "resolve(0)");
        due(x, "alert(3, 0)", 0);
        due(x, "alert(4, 0)", 7);
        due(x, "alert(5, 0)", LIMIT);
    }

    private void partsOfAnIncident() {
        sentence("An incident has a cause (0 to 19), a severity (0 to 2), a level (0 at first), perhaps an owner, a "
            + "time at which the owner was paged, and it is acknowledged or not.");
        for (int cause = 0; cause <= 19; cause++) {
            for (int severity = 0; severity <= 2; severity++) {
                PageRotas x = watch(1, 1);
                go(x, "pass(5)");
                due(x, "alert(" + cause + ", " + severity + ")", 0);
                int[] parts = {cause, severity, 0, 0, 0, 1, 5, 5, 0, 5, 0, 0};
                for (int what = 0; what < parts.length; what++) {
                    due(x, "incidentOf(0, " + what + ")", parts[what]);
                }
            }
        }
        PageRotas y = new PageRotas();
        go(y, "alert(0, 2)");
        due("perhaps an owner", call(y, "incidentOf(0, 3)"), NOT_FOUND);
        numberUsedAgain();
    }

    private void numberUsedAgain() {
        PageRotas x = people(1);
        go(x, "region(0, 1, 24)", "join(0, 0)", "alert(1, 1)", "alert(1, 2)", "pass(59)", "acknowledge(0)");
        go(x, "pass(20)", "resolve(0)");
        due(x, "alert(1, 0)", 0);
        int[] parts = {1, 0, 0, NOT_FOUND, 0, 1, 79, 79, 0, NOT_FOUND, 0, 0};
        for (int what = 0; what < parts.length; what++) {
            due("of a number used again, incidentOf(0, " + what + ")", call(x, "incidentOf(0, " + what + ")"),
                parts[what]);
        }
    }

    private void folding() {
        sentence("An alert of a cause comes: if there is an open incident of this cause whose latest alert came "
            + "setting 1 minutes ago or less, it is folded into it");
        int[] settings = {0, 1, 29, 30, 600};
        for (int setting : settings) {
            PageRotas x = new PageRotas();
            go(x, "set(1, " + setting + ")", "alert(4, 0)");
            passTo(x, setting);
            due("alert(4, 0) after " + setting, call(x, "alert(4, 0)"), 0);
            passTo(x, 2 * setting);
            due("the latest alert counts, not the first one", call(x, "alert(4, 0)"), 0);
            due("of another cause", call(x, "alert(5, 0)"), 1);
            due(x, "count(7)", 2);
            passTo(x, 3 * setting + 1);
            due("alert(4, 0) after " + (setting + 1), call(x, "alert(4, 0)"), 2);
            due(x, "count(7)", 2);
        }
        PageRotas y = new PageRotas();
        go(y, "alert(4, 0)", "resolve(0)", "alert(5, 0)");
        due("a resolved one is not open", call(y, "alert(4, 0)"), 1);
        sentence("(of several into the lowest one):");
        PageRotas z = new PageRotas();
        go(z, "set(1, 0)", "alert(9, 0)", "alert(4, 0)", "pass(1)", "alert(4, 0)", "pass(1)", "alert(4, 0)");
        go(z, "set(1, 600)");
        due(z, "alert(4, 0)", 1);
        go(z, "resolve(1)");
        due(z, "alert(4, 0)", 2);
        go(z, "set(1, 0)", "pass(2)", "alert(3, 0)", "alert(4, 0)", "set(1, 1)");
        due("not into a lower one that is too old", call(z, "alert(4, 0)"), 4);
        sentence("its severity is the greater one of both, and its latest alert is this one.");
        for (int first = 0; first <= 2; first++) {
            for (int second = 0; second <= 2; second++) {
                PageRotas x = new PageRotas();
                go(x, "alert(4, " + first + ")", "pass(7)");
                due(x, "alert(4, " + second + ")", 0);
                due(x, "incidentOf(0, 1)", Math.max(first, second));
                due(x, "incidentOf(0, 7)", 7);
                due("the first one stays", call(x, "incidentOf(0, 6)"), 0);
            }
        }
    }

    private void newOnes() {
        sentence("Otherwise there is a new incident.");
        PageRotas x = new PageRotas();
        go(x, "alert(4, 2)", "pass(31)");
        due(x, "alert(4, 0)", 1);
        due(x, "count(3)", 2);
        due(x, "incidentOf(1, 1)", 0);
        due(x, "incidentOf(1, 5)", 1);
        due(x, "incidentOf(1, 6)", 31);
        due("the old one stays as it is", call(x, "incidentOf(0, 7)"), 0);
        due("the old one stays as it is", call(x, "incidentOf(0, 5)"), 1);
        due(x, "count(6)", 2);
        due(x, "count(7)", 0);
    }

    private void peopleLookedAt() {
        sentence("To page for an incident means: of the people on call now, the one at its level is looked at.");
        PageRotas x = watch(3, 1);
        go(x, "set(0, 1)", "pass(60)", "alert(1, 1)");
        due("level 0 in hour 1", call(x, "incidentOf(0, 3)"), 1);
        for (int level = 1; level <= 7; level++) {
            go(x, "pass(1)");
            due(x, "incidentOf(0, 2)", level);
            due(x, "incidentOf(0, 3)", (1 + level) % 3);
        }
        PageRotas y = watch(2, 24);
        go(y, "person()", "override(0, 2, 1)", "alert(1, 1)");
        due("the override at level 0", call(y, "incidentOf(0, 3)"), 2);
        go(y, "pass(10)");
        due("the rota at level 1", call(y, "incidentOf(0, 3)"), 1);
        go(y, "pass(49)", "alert(2, 1)");
        due("the override in its last minute", call(y, "incidentOf(1, 3)"), 2);
        go(y, "pass(1)", "alert(3, 1)");
        due("the rota behind it", call(y, "incidentOf(2, 3)"), 0);
    }

    private void nobodyFound() {
        sentence("If there is none,");
        PageRotas x = watch(1, 24);
        go(x, "pass(600)", "pass(600)", "pass(180)", "alert(1, 2)");
        due("no region in hour 23", call(x, "incidentOf(0, 3)"), NOT_FOUND);
        due(x, "incidentOf(0, 9)", NOT_FOUND);
        PageRotas y = people(1);
        go(y, "region(0, 23, 1)", "override(0, 0, 5)", "alert(1, 2)");
        due("a rota of nobody", call(y, "incidentOf(0, 3)"), NOT_FOUND);
        sentence("or if its severity is 0, the hour is in the quiet hours of this person, and its cause is no "
            + "exception of this person,");
        for (int severity = 0; severity <= 2; severity++) {
            for (int quiet = 0; quiet <= 1; quiet++) {
                for (int exception = 0; exception <= 1; exception++) {
                    PageRotas z = watch(2, 24);
                    go(z, "quiet(0, " + (1 - quiet) + ", 2)", "except(0, " + (8 - exception) + ")");
                    go(z, "alert(7, " + severity + ")");
                    int want = severity == 0 && quiet == 1 && exception == 0 ? NOT_FOUND : 0;
                    due("owner, severity " + severity + ", quiet " + quiet + ", exception " + exception,
                        call(z, "incidentOf(0, 3)"), want);
                }
            }
        }
        PageRotas w = watch(2, 24);
        go(w, "quiet(1, 0, 23)", "except(1, 7)", "alert(7, 0)");
        due("another person's quiet hours", call(w, "incidentOf(0, 3)"), 0);
        go(w, "quiet(0, 0, 23)", "alert(8, 0)");
        due("another person's exception", call(w, "incidentOf(1, 3)"), NOT_FOUND);
        go(w, "override(0, 1, 1)", "alert(9, 0)");
        due("an override's person has quiet hours, too", call(w, "incidentOf(2, 3)"), NOT_FOUND);
        sentence("the incident has no owner, and is not acknowledged.");
        PageRotas v = dayAndNight(1);
        go(v, "pass(600)", "quiet(0, 12, 0)", "alert(7, 0)", "acknowledge(0)", "pass(119)");
        due(v, "incidentOf(0, 3)", 0);
        due(v, "incidentOf(0, 4)", 1);
        go(v, "pass(1)");
        due(v, "incidentOf(0, 3)", NOT_FOUND);
        due(v, "incidentOf(0, 4)", 0);
        due("the time of the page stays", call(v, "incidentOf(0, 9)"), 600);
        due("it is no page that counts", call(v, "count(8)"), 1);
        due("it is no page that counts", call(v, "personOf(0, 0)"), 1);
    }

    private void somebodyFound() {
        sentence("Otherwise this person is its owner, it is not acknowledged, and the time of the page is now (only "
            + "this is a page that counts).");
        PageRotas x = dayAndNight(1);
        go(x, "pass(600)", "alert(7, 0)", "acknowledge(0)");
        due(x, "incidentOf(0, 9)", 600);
        due(x, "count(8)", 1);
        due(x, "pass(119)", 0);
        due(x, "incidentOf(0, 4)", 1);
        due(x, "pass(1)", 1);
        due(x, "incidentOf(0, 3)", 0);
        due(x, "incidentOf(0, 4)", 0);
        due(x, "incidentOf(0, 9)", 720);
        due(x, "count(8)", 2);
        due(x, "personOf(0, 0)", 2);
    }

    private void pagedAtOnce() {
        sentence("A new incident, and one whose severity becomes greater while it has no owner, is paged for at "
            + "once.");
        PageRotas x = watch(1, 24);
        go(x, "alert(1, 0)");
        due("a new one", call(x, "incidentOf(0, 9)"), 0);
        go(x, "quiet(0, 0, 23)", "pass(3)", "alert(2, 0)");
        due("a new one that finds nobody", call(x, "incidentOf(1, 3)"), NOT_FOUND);
        go(x, "pass(4)", "quiet(0, 0, 0)", "alert(2, 0)");
        due("the same severity", call(x, "incidentOf(1, 3)"), NOT_FOUND);
        go(x, "alert(2, 1)");
        due("a greater severity", call(x, "incidentOf(1, 3)"), 0);
        due("a greater severity", call(x, "incidentOf(1, 9)"), 7);
        go(x, "pass(2)", "acknowledge(1)", "alert(2, 2)", "alert(1, 2)");
        due("a greater severity with an owner", call(x, "incidentOf(1, 9)"), 7);
        due("it stays acknowledged", call(x, "incidentOf(1, 4)"), 1);
        due("a greater severity with an owner", call(x, "incidentOf(0, 9)"), 0);
        due(x, "count(8)", 2);
        PageRotas y = new PageRotas();
        go(y, "alert(1, 1)", "person()", "region(0, 5, 1)", "join(0, 0)", "alert(1, 0)");
        due("a smaller severity", call(y, "incidentOf(0, 3)"), NOT_FOUND);
        go(y, "alert(1, 1)");
        due("the same severity", call(y, "incidentOf(0, 3)"), NOT_FOUND);
        go(y, "alert(1, 2)");
        due("a greater severity", call(y, "incidentOf(0, 3)"), 0);
        PageRotas z = watch(2, 24);
        go(z, "quiet(1, 0, 23)", "alert(1, 0)", "pass(10)", "alert(1, 1)");
        due("paged for at its level", call(z, "incidentOf(0, 3)"), 1);
        due("its level stays", call(z, "incidentOf(0, 2)"), 1);
    }

    private void time() {
        sentence("The time becomes greater by 1.");
        PageRotas x = people(2);
        go(x, "region(0, 1, 24)", "join(0, 0)", "pass(58)", "alert(1, 1)", "pass(1)");
        due(x, "count(2)", 59);
        due("the hour 0 still", call(x, "incidentOf(0, 3)"), 0);
        go(x, "pass(1)");
        due(x, "count(2)", 60);
        due("the hour 1 already in the minute to it", call(x, "incidentOf(0, 3)"), NOT_FOUND);
        PageRotas y = watch(1, 24);
        go(y, "set(0, 1)", "alert(1, 1)", "pass(3)");
        due("the page in a minute is at the time that it brings", call(y, "incidentOf(0, 9)"), 3);
    }

    private void openOnesOnly() {
        sentence("Then, for each open incident, by number:");
        PageRotas x = watch(1, 24);
        for (int i = 0; i < 8; i++) {
            go(x, "alert(" + i + ", 1)");
        }
        due("pages for all of 8", call(x, "pass(10)"), 8);
        go(x, "resolve(0)", "resolve(7)", "resolve(3)");
        due("pages for 5 that are left", call(x, "pass(10)"), 5);
        PageRotas y = new PageRotas();
        for (int i = 0; i < 8; i++) {
            go(y, "alert(" + i + ", 1)");
        }
        go(y, "pass(1)");
        for (int i = 0; i < 8; i++) {
            due(y, "incidentOf(" + i + ", 8)", 1);
        }
        due(y, "count(12)", 8);
        go(y, "resolve(0)", "resolve(7)", "resolve(3)", "pass(1)");
        due(y, "count(12)", 13);
    }

    private void unowned() {
        sentence("1. If it has no owner, its time unowned becomes greater by 1.");
        PageRotas x = people(1);
        go(x, "region(1, 2, 24)", "join(0, 0)", "alert(1, 1)");
        due(x, "incidentOf(0, 8)", 0);
        go(x, "pass(1)");
        due(x, "incidentOf(0, 8)", 1);
        go(x, "pass(58)");
        due(x, "incidentOf(0, 8)", 59);
        go(x, "pass(1)");
        due("the minute in which it is paged for", call(x, "incidentOf(0, 8)"), 60);
        due(x, "incidentOf(0, 3)", 0);
        go(x, "pass(59)");
        due("while it is owned", call(x, "incidentOf(0, 8)"), 60);
        go(x, "pass(1)");
        due("the minute in which it is handed off", call(x, "incidentOf(0, 8)"), 60);
        due(x, "incidentOf(0, 3)", NOT_FOUND);
        go(x, "pass(1)");
        due("the one behind it", call(x, "incidentOf(0, 8)"), 61);
        due(x, "count(12)", 61);
    }

    private void handOffs() {
        sentence("2. If it has an owner, and the region on call is another one than the region by which it was paged "
            + "for last: it is handed off: its level is 0, and it is paged for;");
        PageRotas x = people(4);
        go(x, "region(0, 1, 24)", "region(1, 3, 1)", "join(0, 0)", "join(0, 3)", "join(1, 1)", "join(1, 2)");
        go(x, "alert(1, 1)", "pass(50)", "alert(2, 1)", "acknowledge(1)");
        due(x, "incidentOf(0, 2)", 5);
        due(x, "pass(9)", 0);
        due("both in the minute to the hour 1", call(x, "pass(1)"), 2);
        int[] first = {1, 1, 0, 2, 0, 1, 0, 0, 0, 60, 1, 5};
        int[] second = {2, 1, 0, 2, 0, 1, 50, 50, 0, 60, 1, 0};
        for (int what = 0; what < first.length; what++) {
            due("escalation would be due, too: incidentOf(0, " + what + ")",
                call(x, "incidentOf(0, " + what + ")"), first[what]);
            due("acknowledged ones, too: incidentOf(1, " + what + ")",
                call(x, "incidentOf(1, " + what + ")"), second[what]);
        }
        due(x, "count(10)", 2);
        due(x, "count(11)", 5);
        go(x, "acknowledge(0)", "acknowledge(1)");
        due("the same region, though another person", call(x, "pass(119)"), 0);
        due(x, "incidentOf(0, 3)", 2);
        due(x, "count(10)", 2);
        PageRotas y = people(2);
        go(y, "region(0, 5, 24)", "region(0, 9, 24)", "join(1, 1)", "alert(1, 1)", "join(0, 0)");
        due("at once it stays", call(y, "incidentOf(0, 3)"), 1);
        due("a lower region that covers the time since then", call(y, "pass(1)"), 1);
        due(y, "incidentOf(0, 3)", 0);
        go(y, "leave(0, 0)");
        due("at once it stays", call(y, "incidentOf(0, 3)"), 0);
        due("a region that covers it no longer", call(y, "pass(1)"), 1);
        due(y, "incidentOf(0, 3)", 1);
        due(y, "incidentOf(0, 10)", 2);
        PageRotas z = people(2);
        go(z, "region(0, 9, 24)", "join(0, 0)", "join(0, 1)", "alert(1, 1)", "acknowledge(0)", "leave(0, 0)");
        due("the owner left, the region stays", call(z, "pass(5)"), 0);
        due(z, "incidentOf(0, 3)", 0);
    }

    private void handOffsToNobody() {
        sentence("likewise if there is no region on call now (so it has no owner then; this is a hand-off, too).");
        PageRotas x = people(1);
        go(x, "region(0, 1, 24)", "join(0, 0)", "alert(1, 1)", "pass(55)", "acknowledge(0)");
        due(x, "incidentOf(0, 2)", 5);
        due(x, "pass(5)", 0);
        int[] parts = {1, 1, 0, NOT_FOUND, 0, 1, 0, 0, 0, 50, 1, 5};
        for (int what = 0; what < parts.length; what++) {
            due(x, "incidentOf(0, " + what + ")", parts[what]);
        }
        due(x, "count(10)", 1);
        go(x, "pass(60)");
        due("once only", call(x, "count(10)"), 1);
        passTo(x, 1439);
        due("back to the region", call(x, "pass(1)"), 1);
        due("this is no hand-off", call(x, "count(10)"), 1);
        due(x, "incidentOf(0, 3)", 0);
        PageRotas y = dayAndNight(1);
        go(y, "quiet(0, 12, 0)", "pass(600)", "pass(60)", "alert(1, 0)", "acknowledge(0)", "pass(60)");
        due("a hand-off that finds a region, but nobody", call(y, "count(10)"), 1);
        due(y, "incidentOf(0, 3)", NOT_FOUND);
    }

    private void pagesForUnowned() {
        sentence("3. Otherwise, if it has no owner, it is paged for.");
        PageRotas x = new PageRotas();
        go(x, "alert(1, 1)", "pass(5)", "person()", "region(0, 5, 1)", "join(0, 0)");
        due(x, "incidentOf(0, 3)", NOT_FOUND);
        due(x, "pass(1)", 1);
        due(x, "incidentOf(0, 3)", 0);
        due(x, "incidentOf(0, 9)", 6);
        due("no hand-off", call(x, "count(10)"), 0);
        due("no escalation", call(x, "count(11)"), 0);
        PageRotas y = watch(2, 24);
        go(y, "quiet(1, 0, 1)", "alert(1, 0)", "pass(59)");
        due("at its level", call(y, "incidentOf(0, 2)"), 1);
        due(y, "incidentOf(0, 3)", NOT_FOUND);
        due("each minute anew, when the quiet hour is over", call(y, "pass(1)"), 1);
        due(y, "incidentOf(0, 3)", 1);
        due("its level stays", call(y, "incidentOf(0, 2)"), 1);
        due("it is escalated from this page on", call(y, "pass(9)"), 0);
        due("it is escalated from this page on", call(y, "pass(1)"), 1);
    }

    private void escalation() {
        sentence("4. Otherwise, if it is not acknowledged, and was paged for setting 0 minutes ago or more: it is "
            + "escalated: its level becomes greater by 1, and it is paged for.");
        int[] settings = {1, 2, 10, 119, 120};
        for (int setting : settings) {
            PageRotas x = watch(3, 24);
            go(x, "set(0, " + setting + ")", "alert(1, 0)");
            for (int level = 1; level <= 4; level++) {
                if (setting > 1) {
                    due("setting " + setting + ", pass(" + (setting - 1) + ")",
                        call(x, "pass(" + (setting - 1) + ")"), 0);
                }
                due("setting " + setting + ", pass(1)", call(x, "pass(1)"), 1);
                due(x, "incidentOf(0, 2)", level);
                due(x, "incidentOf(0, 3)", level % 3);
                due(x, "incidentOf(0, 9)", level * setting);
                due(x, "incidentOf(0, 11)", level);
            }
            go(x, "acknowledge(0)");
            due("acknowledged", call(x, "pass(240)"), 0);
            due(x, "incidentOf(0, 2)", 4);
        }
        PageRotas y = watch(2, 24);
        go(y, "set(0, 120)", "alert(1, 0)", "pass(50)", "set(0, 5)");
        due("at once it stays", call(y, "incidentOf(0, 2)"), 0);
        due("more than setting 0 minutes ago", call(y, "pass(1)"), 1);
        due("from this page on", call(y, "pass(4)"), 0);
        due("from this page on", call(y, "pass(1)"), 1);
        PageRotas z = watch(2, 24);
        go(z, "quiet(1, 0, 1)", "alert(1, 0)");
        due("escalated to nobody", call(z, "pass(10)"), 0);
        due(z, "incidentOf(0, 3)", NOT_FOUND);
        due(z, "incidentOf(0, 2)", 1);
        due(z, "count(11)", 1);
        due("the time of the page stays", call(z, "incidentOf(0, 9)"), 0);
        go(z, "pass(30)");
        due("without an owner it is not escalated", call(z, "count(11)"), 1);
    }

    private void settings() {
        sentence("The settings are (in parentheses: range; first value):");
        PageRotas x = new PageRotas();
        due(x, "count(20)", 10);
        due(x, "count(21)", 30);
        dueForEach(x, "set(%, 5)", outside(0, 1), INVALID);
        sentence("0 the minutes until it is escalated (1 to 120; 10),");
        due(x, "set(0, 1)", 10);
        due(x, "count(20)", 1);
        due(x, "set(0, 120)", 1);
        due(x, "count(20)", 120);
        dueForEach(x, "set(0, %)", outside(1, 120), INVALID);
        due(x, "count(20)", 120);
        PageRotas y = watch(2, 24);
        go(y, "alert(1, 1)");
        due("10 minutes at first", call(y, "pass(9)"), 0);
        due("10 minutes at first", call(y, "pass(1)"), 1);
        sentence("1 the minutes of folding (0 to 600; 30).");
        due(x, "set(1, 0)", 30);
        due(x, "count(21)", 0);
        due(x, "set(1, 600)", 0);
        due(x, "count(21)", 600);
        dueForEach(x, "set(1, %)", outside(0, 600), INVALID);
        due(x, "count(21)", 600);
        PageRotas z = new PageRotas();
        go(z, "alert(1, 1)", "pass(30)");
        due("30 minutes at first", call(z, "alert(1, 1)"), 0);
        go(z, "pass(31)");
        due("30 minutes at first", call(z, "alert(1, 1)"), 1);
    }
}
