/** The sections "Promise 11" to "Promise 17": alerts, acknowledging, resolving, minutes, settings, counts. */
final class IncidentPromises extends Section {
    IncidentPromises(Sentences sentences) {
        super(sentences);
    }

    @Override
    void ask() {
        alert();
        acknowledge();
        resolve();
        pass();
        pagesOfMinutes();
        passErrors();
        set();
        incidentOf();
        incidentOfLevels();
        incidentOfAlerts();
        incidentOfUnowned();
        incidentOfHandOffs();
        incidentOfErrors();
        count();
        countOfIncidents();
        countOfPages();
        countOfMinutes();
        countOfRest();
    }

    private void alert() {
        section("Promise 11");
        sentence("`int alert(int cause, int severity)`: An alert comes.");
        PageRotas x = watch(1, 24);
        go(x, "alert(3, 1)");
        due(x, "count(6)", 1);
        due(x, "count(3)", 1);
        go(x, "alert(3, 1)");
        due(x, "count(6)", 2);
        due(x, "count(3)", 1);
        due(x, "incidentOf(0, 5)", 2);
        sentence("- `cause`: 0 to 19");
        due(x, "alert(0, 0)", 1);
        due(x, "alert(19, 0)", 2);
        dueForEach(x, "alert(%, 0)", outside(0, 19), INVALID);
        sentence("- `severity`: 0 to 2");
        due(x, "alert(4, 0)", 3);
        due(x, "alert(5, 2)", 4);
        dueForEach(x, "alert(6, %)", outside(0, 2), INVALID);
        dueForEach(x, "alert(5, %)", outside(0, 2), INVALID);
        due(x, "count(6)", 6);
        sentence("Returns the number of its incident;");
        due("a new one", call(x, "alert(6, 0)"), 5);
        due("a folded one", call(x, "alert(19, 0)"), 2);
        go(x, "resolve(1)");
        due("the lowest free one", call(x, "alert(7, 0)"), 1);
        sentence("INVALID_ARGUMENT if an argument is out of range;");
        go(x, "alert(8, 0)", "alert(9, 0)");
        due("with 8 open ones, too", call(x, "alert(20, 0)"), INVALID);
        due(x, "alert(10, 3)", INVALID);
        due(x, "alert(-1, -1)", INVALID);
        sentence("LIMIT_REACHED if there would be a new incident, and 8 are open.");
        due(x, "alert(10, 0)", LIMIT);
        due("a folded one is none", call(x, "alert(9, 2)"), 7);
        go(x, "pass(30)");
        due("still folded", call(x, "alert(9, 2)"), 7);
        go(x, "pass(31)");
        due("it would be a new one", call(x, "alert(9, 2)"), LIMIT);
        due("nothing came", call(x, "incidentOf(7, 5)"), 3);
        go(x, "resolve(6)");
        due(x, "alert(9, 2)", 6);
    }

    private void acknowledge() {
        section("Promise 12");
        sentence("`int acknowledge(int incident)`: The owner acknowledges.");
        PageRotas x = watch(2, 24);
        go(x, "alert(1, 1)", "alert(2, 1)");
        due(x, "incidentOf(1, 4)", 0);
        go(x, "pass(4)", "acknowledge(1)");
        due(x, "incidentOf(1, 4)", 1);
        due(x, "incidentOf(0, 4)", 0);
        due("the owner stays", call(x, "incidentOf(1, 3)"), 0);
        due("it is no page", call(x, "incidentOf(1, 9)"), 0);
        sentence("- `incident`: number of the incident");
        go(x, "alert(3, 1)");
        due(x, "acknowledge(2)", 0);
        dueForEach(x, "acknowledge(%)", outside(0, 2), INVALID);
        sentence("Returns the minutes since the page;");
        PageRotas y = watch(2, 24);
        go(y, "pass(100)", "alert(1, 1)");
        due("in the minute of the page", call(y, "acknowledge(0)"), 0);
        go(y, "alert(2, 1)", "pass(9)");
        due("the minute ahead of escalation", call(y, "acknowledge(1)"), 9);
        go(y, "alert(3, 1)", "pass(10)");
        due("the minute of escalation", call(y, "acknowledge(2)"), 0);
        go(y, "alert(4, 1)", "pass(13)", "alert(4, 2)");
        due("since the latest page, not the latest alert", call(y, "acknowledge(3)"), 3);
        PageRotas late = new PageRotas();
        go(late, "alert(1, 1)", "pass(20)", "person()", "region(0, 9, 1)", "join(0, 0)", "pass(7)");
        due("since the page, not the first alert", call(late, "acknowledge(0)"), 6);
        sentence("INVALID_ARGUMENT;");
        due("no such incident", call(y, "acknowledge(4)"), INVALID);
        due("no such number", call(y, "acknowledge(8)"), INVALID);
        go(y, "resolve(1)");
        due("a resolved one", call(y, "acknowledge(1)"), INVALID);
        sentence("NOT_POSSIBLE if it has no owner, or is acknowledged.");
        due(y, "acknowledge(0)", NOT_POSSIBLE);
        go(y, "quiet(0, 0, 23)", "alert(9, 0)");
        due("without an owner", call(y, "acknowledge(1)"), NOT_POSSIBLE);
        PageRotas z = dayAndNight(1);
        go(z, "pass(600)", "alert(1, 1)", "acknowledge(0)", "pass(119)");
        due(z, "acknowledge(0)", NOT_POSSIBLE);
        go(z, "pass(1)");
        due("after a hand-off it is possible again", call(z, "acknowledge(0)"), 0);
    }

    private void resolve() {
        section("Promise 13");
        sentence("`int resolve(int incident)`: An incident is resolved; its number is free then.");
        PageRotas x = watch(1, 24);
        for (int i = 0; i < 8; i++) {
            go(x, "alert(" + i + ", 1)");
        }
        for (int i = 7; i >= 0; i -= 7) {
            go(x, "resolve(" + i + ")");
            due("resolved", call(x, "incidentOf(" + i + ", 0)"), INVALID);
            due(x, "count(3)", 7);
            due("its number is free", call(x, "alert(" + (10 + i) + ", 1)"), i);
        }
        due(x, "count(9)", 2);
        due("an incident without an owner, too", call(quietIncident(), "resolve(0)"), 0);
        sentence("- `incident`: number of the incident");
        go(x, "resolve(6)", "resolve(7)");
        dueForEach(x, "resolve(%)", outside(0, 5), INVALID);
        sentence("Returns the minutes since its first alert;");
        PageRotas y = watch(2, 24);
        go(y, "pass(50)", "alert(1, 1)");
        due("in the minute of its alert", call(y, "resolve(0)"), 0);
        go(y, "alert(1, 1)", "pass(25)", "alert(1, 2)", "acknowledge(0)", "pass(5)");
        due("not since its latest one, or its page", call(y, "resolve(0)"), 30);
        go(y, "alert(1, 1)");
        passTo(y, 30000);
        due("until the last time", call(y, "resolve(0)"), 29920);
        sentence("INVALID_ARGUMENT.");
        due("twice", call(y, "resolve(0)"), INVALID);
        due("none is open", call(y, "resolve(7)"), INVALID);
        due("no such number", call(y, "resolve(8)"), INVALID);
        due(y, "resolve(-1)", INVALID);
    }

    private PageRotas quietIncident() {
        PageRotas x = watch(1, 24);
        go(x, "quiet(0, 0, 23)", "alert(1, 0)");
        return x;
    }

    private void pass() {
        section("Promise 14");
        sentence("`int pass(int minutes)`: Lets minutes go by.");
        PageRotas x = new PageRotas();
        go(x, "pass(7)");
        due(x, "count(2)", 7);
        go(x, "pass(1)");
        due(x, "count(2)", 8);
        PageRotas once = changing();
        PageRotas singly = changing();
        go(once, "pass(200)");
        for (int i = 0; i < 200; i++) {
            go(singly, "pass(1)");
        }
        due("200 minutes at once or singly are the same", told(once).equals(told(singly)) ? 1 : 0, 1);
        sentence("- `minutes`: 1 to 600");
        due(x, "pass(1)", 0);
        due(x, "pass(600)", 0);
        due(x, "count(2)", 609);
        dueForEach(x, "pass(%)", outside(1, 600), INVALID);
        due(x, "count(2)", 609);
    }

    private void pagesOfMinutes() {
        PageRotas x = new PageRotas();
        sentence("Returns how many pages there are in them;");
        due("of no incident", call(x, "pass(60)"), 0);
        PageRotas y = watch(2, 24);
        go(y, "alert(1, 1)", "alert(2, 1)");
        due("the pages ahead of them are none of these", call(y, "pass(9)"), 0);
        due("escalations", call(y, "pass(1)"), 2);
        go(y, "acknowledge(0)");
        due("those of more minutes", call(y, "pass(100)"), 10);
        go(y, "quiet(0, 0, 23)", "quiet(1, 0, 23)", "alert(3, 0)", "acknowledge(1)");
        due("those that find nobody are none", call(y, "pass(100)"), 0);
        PageRotas z = dayAndNight(1);
        go(z, "pass(600)", "alert(1, 1)", "acknowledge(0)");
        due("a hand-off", call(z, "pass(120)"), 1);
    }

    private void passErrors() {
        PageRotas z = new PageRotas();
        sentence("INVALID_ARGUMENT if minutes is out of range;");
        passTo(z, 30000);
        due("at the last time, too", call(z, "pass(0)"), INVALID);
        due("at the last time, too", call(z, "pass(601)"), INVALID);
        due("at the last time, too", call(z, "pass(-1)"), INVALID);
        sentence("LIMIT_REACHED if the time would be above 30000.");
        due(z, "pass(1)", LIMIT);
        due(z, "pass(600)", LIMIT);
        due(z, "count(2)", 30000);
        PageRotas w = new PageRotas();
        passTo(w, 29400);
        due("up to it", call(w, "pass(600)"), 0);
        go(w, "undo()", "pass(1)");
        due("above it by 1", call(w, "pass(600)"), LIMIT);
        due(w, "count(2)", 29401);
        due("up to it", call(w, "pass(599)"), 0);
        due(w, "count(2)", 30000);
    }

    /** Two regions, quiet hours, an override, and incidents of which one is acknowledged. */
    private PageRotas changing() {
        PageRotas x = people(4);
        go(x, "region(0, 2, 1)", "region(3, 9, 1)", "join(0, 0)", "join(0, 1)", "join(1, 2)", "join(1, 0)");
        go(x, "quiet(1, 1, 4)", "override(0, 3, 1)", "alert(1, 0)", "alert(2, 1)", "alert(3, 1)", "acknowledge(2)");
        return x;
    }

    private void set() {
        section("Promise 15");
        sentence("`int set(int what, int value)`: Sets a setting.");
        PageRotas x = new PageRotas();
        go(x, "set(0, 33)");
        due(x, "count(20)", 33);
        due("the other one stays", call(x, "count(21)"), 30);
        go(x, "set(1, 44)");
        due(x, "count(21)", 44);
        due("the other one stays", call(x, "count(20)"), 33);
        sentence("- `what`: 0 or 1");
        due(x, "set(0, 5)", 33);
        due(x, "set(1, 5)", 44);
        dueForEach(x, "set(%, 5)", outside(0, 1), INVALID);
        sentence("- `value`: a value in its range");
        due(x, "set(0, 1)", 5);
        due(x, "set(0, 120)", 1);
        due(x, "set(1, 0)", 5);
        due(x, "set(1, 600)", 0);
        dueForEach(x, "set(0, %)", outside(1, 120), INVALID);
        dueForEach(x, "set(1, %)", outside(0, 600), INVALID);
        sentence("Returns what it was;");
        PageRotas y = new PageRotas();
        due(y, "set(0, 20)", 10);
        due(y, "set(0, 20)", 20);
        due(y, "set(0, 10)", 20);
        due(y, "set(1, 0)", 30);
        due(y, "set(1, 1)", 0);
        due(y, "undo()", 3);
        due("after undo", call(y, "set(1, 2)"), 0);
        sentence("INVALID_ARGUMENT if an argument is out of range.");
        due(y, "set(0, 0)", INVALID);
        due("in the range of the other one", call(y, "set(0, 121)"), INVALID);
        due(y, "set(1, 601)", INVALID);
        due(y, "set(1, -1)", INVALID);
        due(y, "set(2, 1)", INVALID);
        due(y, "count(20)", 10);
        due(y, "count(21)", 2);
    }

    private void incidentOf() {
        section("Promise 16");
        sentence("`int incidentOf(int incident, int what)`: Returns something of an open incident.");
        PageRotas x = watch(3, 24);
        go(x, "pass(3)", "alert(9, 0)", "alert(8, 1)", "pass(4)", "alert(9, 2)", "pass(7)", "acknowledge(0)");
        int[] first = {9, 2, 1, 1, 1, 2, 3, 7, 0, 13, 0, 1};
        int[] second = {8, 1, 1, 1, 0, 1, 3, 3, 0, 13, 0, 1};
        for (int what = 0; what <= 11; what++) {
            due(x, "incidentOf(0, " + what + ")", first[what]);
            due(x, "incidentOf(1, " + what + ")", second[what]);
        }
        sentence("- `incident`: number of the incident");
        dueForEach(x, "incidentOf(%, 0)", outside(0, 1), INVALID);
        dueForEach(x, "incidentOf(%, 0)", range(2, 8), INVALID);
        sentence("- `what`: 0: its cause;");
        PageRotas y = watch(5, 24);
        go(y, "alert(0, 0)", "alert(19, 2)");
        due(y, "incidentOf(0, 0)", 0);
        due(y, "incidentOf(1, 0)", 19);
        sentence("1: its severity;");
        due(y, "incidentOf(0, 1)", 0);
        due(y, "incidentOf(1, 1)", 2);
        go(y, "alert(0, 1)", "alert(19, 1)");
        due("the greater one", call(y, "incidentOf(0, 1)"), 1);
        due("the greater one", call(y, "incidentOf(1, 1)"), 2);
    }

    private void incidentOfLevels() {
        PageRotas x = watch(5, 24);
        sentence("2: its level;");
        go(x, "set(0, 1)", "alert(1, 1)");
        due(x, "incidentOf(0, 2)", 0);
        go(x, "pass(4)");
        due(x, "incidentOf(0, 2)", 4);
        go(x, "pass(200)");
        due("above the people of the rota", call(x, "incidentOf(0, 2)"), 204);
        sentence("3: its owner;");
        due(x, "incidentOf(0, 3)", 4);
        go(x, "pass(1)");
        due(x, "incidentOf(0, 3)", 0);
        sentence("4: 1 if it is acknowledged, otherwise 0;");
        due(x, "incidentOf(0, 4)", 0);
        go(x, "acknowledge(0)");
        due(x, "incidentOf(0, 4)", 1);
        due("without an owner", call(quietIncident(), "incidentOf(0, 4)"), 0);
    }

    private void incidentOfAlerts() {
        sentence("5: its alerts;");
        PageRotas y = watch(2, 24);
        for (int i = 1; i <= 9; i++) {
            go(y, "alert(4, 1)");
            due(y, "incidentOf(0, 5)", i);
        }
        go(y, "alert(5, 1)");
        due("another one's", call(y, "incidentOf(0, 5)"), 9);
        sentence("6: the time of its first alert;");
        dueTimeOfAlert(6, 0);
        sentence("7: that of its latest one;");
        dueTimeOfAlert(7, 30);
    }

    private void incidentOfUnowned() {
        sentence("8: its time unowned;");
        PageRotas z = new PageRotas();
        go(z, "pass(10)", "alert(1, 1)");
        due(z, "incidentOf(0, 8)", 0);
        go(z, "pass(33)");
        due(z, "incidentOf(0, 8)", 33);
        go(z, "person()", "region(0, 1, 1)", "join(0, 0)", "pass(1)");
        due(z, "incidentOf(0, 8)", 34);
        go(z, "pass(16)");
        due(z, "incidentOf(0, 8)", 34);
        go(z, "pass(1)");
        due("unowned again", call(z, "incidentOf(0, 8)"), 35);
        sentence("9: the time of the latest page for it that found an owner;");
        due(z, "incidentOf(0, 9)", 54);
        PageRotas w = watch(2, 24);
        go(w, "quiet(1, 0, 23)", "pass(5)", "alert(1, 0)", "pass(10)");
        due("later ones found nobody", call(w, "incidentOf(0, 9)"), 5);
        go(w, "alert(1, 1)");
        due(w, "incidentOf(0, 9)", 15);
    }

    private void incidentOfHandOffs() {
        sentence("10: how often it was handed off so far;");
        PageRotas v = dayAndNight(1);
        go(v, "alert(1, 1)", "alert(2, 1)");
        for (int i = 0; i <= 4; i++) {
            due(v, "incidentOf(0, 10)", i);
            passTo(v, 720 * (i + 1));
        }
        go(v, "resolve(0)", "alert(1, 1)");
        due("a new one", call(v, "incidentOf(0, 10)"), 0);
        due(v, "incidentOf(1, 10)", 5);
        sentence("11: how often it was escalated so far");
        PageRotas u = dayAndNight(2);
        go(u, "alert(1, 1)", "pass(50)");
        due(u, "incidentOf(0, 11)", 5);
        passTo(u, 720);
        due("with its level at 0 again", call(u, "incidentOf(0, 11)"), 71);
        due(u, "incidentOf(0, 2)", 0);
        go(u, "pass(10)");
        due(u, "incidentOf(0, 11)", 72);
        due(u, "incidentOf(0, 2)", 1);
    }

    private void dueTimeOfAlert(int what, int later) {
        PageRotas x = new PageRotas();
        go(x, "alert(1, 1)");
        due(x, "incidentOf(0, " + what + ")", 0);
        go(x, "pass(30)", "alert(1, 0)");
        due(x, "incidentOf(0, " + what + ")", later);
        go(x, "pass(5)", "alert(2, 0)");
        due("another one's", call(x, "incidentOf(0, " + what + ")"), later);
        due(x, "incidentOf(1, " + what + ")", 35);
    }

    private void incidentOfErrors() {
        sentence("Returns the number;");
        PageRotas x = quietIncident();
        due(x, "incidentOf(0, 5)", 1);
        sentence("INVALID_ARGUMENT if an argument is out of range;");
        dueForEach(x, "incidentOf(0, %)", outside(0, 11), INVALID);
        due(x, "incidentOf(1, 3)", INVALID);
        due(x, "incidentOf(1, 9)", INVALID);
        due(x, "incidentOf(-1, 12)", INVALID);
        sentence("NOT_FOUND for 3 if it has no owner, for 9 if there was no such page.");
        due(x, "incidentOf(0, 3)", NOT_FOUND);
        due(x, "incidentOf(0, 9)", NOT_FOUND);
        go(x, "quiet(0, 0, 0)", "pass(1)");
        due(x, "incidentOf(0, 3)", 0);
        due(x, "incidentOf(0, 9)", 1);
        go(x, "leave(0, 0)", "pass(1)");
        due("no owner any more", call(x, "incidentOf(0, 3)"), NOT_FOUND);
        due("but there was a page", call(x, "incidentOf(0, 9)"), 1);
        go(x, "resolve(0)", "alert(1, 2)");
        due("a new one of this number", call(x, "incidentOf(0, 9)"), NOT_FOUND);
        PageRotas y = watch(1, 24);
        go(y, "alert(1, 1)");
        due("a page at the time 0", call(y, "incidentOf(0, 9)"), 0);
        due("the person 0", call(y, "incidentOf(0, 3)"), 0);
    }

    private void count() {
        section("Promise 17");
        sentence("`int count(int what)`: Returns a number.");
        due(new PageRotas(), "count(21)", 30);
        sentence("- `what`: 0: people;");
        PageRotas x = new PageRotas();
        for (int i = 0; i < 8; i++) {
            due(x, "count(0)", i);
            go(x, "person()");
        }
        due(x, "count(0)", 8);
        sentence("1: regions;");
        for (int i = 0; i < 3; i++) {
            due(x, "count(1)", i);
            go(x, "region(0, 9, 1)");
        }
        due(x, "count(1)", 3);
        sentence("2: the time;");
        due(x, "count(2)", 0);
        go(x, "pass(59)");
        due(x, "count(2)", 59);
        passTo(x, 30000);
        due(x, "count(2)", 30000);
        go(x, "undo()");
        due("after undo", call(x, "count(2)"), 29459);
    }

    private void countOfIncidents() {
        sentence("3: open incidents;");
        PageRotas x = watch(1, 24);
        go(x, "quiet(0, 0, 23)");
        for (int i = 0; i < 8; i++) {
            due(x, "count(3)", i);
            go(x, "alert(" + i + ", " + i % 2 + ")");
        }
        due(x, "count(3)", 8);
        sentence("4: those without owners;");
        due(x, "count(4)", 4);
        go(x, "resolve(0)");
        due(x, "count(3)", 7);
        due("a resolved one is none", call(x, "count(4)"), 3);
        go(x, "resolve(1)");
        due("one with an owner", call(x, "count(4)"), 3);
        sentence("5: those that are acknowledged;");
        due(x, "count(5)", 0);
        go(x, "acknowledge(3)", "acknowledge(7)");
        due(x, "count(5)", 2);
        go(x, "resolve(3)");
        due("a resolved one is none", call(x, "count(5)"), 1);
        PageRotas all = watch(1, 24);
        for (int i = 0; i < 8; i++) {
            go(all, "alert(" + i + ", 1)", "acknowledge(" + i + ")");
            due(all, "count(5)", i + 1);
        }
        sentence("6: alerts so far;");
        due(x, "count(6)", 8);
        go(x, "alert(7, 0)", "alert(15, 0)");
        due("of resolved ones, and folded ones, too", call(x, "count(6)"), 10);
        call(x, "alert(20, 0)");
        due("one that is refused is none", call(x, "count(6)"), 10);
        sentence("7: of these, folded ones;");
        due(x, "count(7)", 1);
        go(x, "resolve(7)");
        due("of resolved ones, too", call(x, "count(7)"), 1);
    }

    private void countOfPages() {
        sentence("8: pages so far;");
        PageRotas x = watch(2, 24);
        due(x, "count(8)", 0);
        go(x, "quiet(1, 0, 23)", "alert(1, 1)", "alert(2, 0)");
        due(x, "count(8)", 2);
        go(x, "pass(10)");
        due("the second one finds nobody", call(x, "count(8)"), 3);
        go(x, "resolve(0)", "resolve(1)");
        due("of resolved ones, too", call(x, "count(8)"), 3);
        sentence("9: incidents resolved so far;");
        due(x, "count(9)", 2);
        call(x, "resolve(0)");
        due(x, "count(9)", 2);
        sentence("10: hand-offs so far;");
        PageRotas y = dayAndNight(1);
        go(y, "alert(1, 1)", "alert(2, 1)");
        due(y, "count(10)", 0);
        passTo(y, 719);
        due(y, "count(10)", 0);
        go(y, "pass(1)");
        due(y, "count(10)", 2);
        go(y, "resolve(0)");
        due("of resolved ones, too", call(y, "count(10)"), 2);
        sentence("11: escalations so far;");
        due(y, "count(11)", 142);
        go(y, "pass(10)");
        due(y, "count(11)", 143);
        go(y, "resolve(1)");
        due("of resolved ones, too", call(y, "count(11)"), 143);
        sentence("12: the time unowned of all incidents so far;");
        PageRotas z = new PageRotas();
        go(z, "alert(1, 1)", "pass(5)", "alert(2, 1)", "pass(7)");
        due(z, "count(12)", 19);
        go(z, "resolve(0)", "pass(1)");
        due("of resolved ones, too", call(z, "count(12)"), 20);
        go(z, "resolve(1)", "pass(5)");
        due(z, "count(12)", 20);
    }

    private void countOfMinutes() {
        sentence("13: overrides in force;");
        PageRotas x = people(1);
        go(x, "region(0, 1, 1)", "region(1, 2, 1)");
        for (int i = 0; i < 6; i++) {
            due(x, "count(13)", i);
            go(x, "override(" + i % 2 + ", 0, " + (i / 2 + 1) + ")");
        }
        due(x, "count(13)", 6);
        for (int hour = 1; hour <= 3; hour++) {
            passTo(x, 60 * hour - 1);
            due("at " + (60 * hour - 1), call(x, "count(13)"), 8 - 2 * hour);
            go(x, "pass(1)");
            due("at " + 60 * hour, call(x, "count(13)"), 6 - 2 * hour);
        }
    }

    private void countOfRest() {
        sentence("14: states in the history;");
        PageRotas x = new PageRotas();
        for (int i = 0; i <= 6; i++) {
            due(x, "count(14)", Math.min(i, 4));
            go(x, "person()");
        }
        go(x, "undo()");
        due(x, "count(14)", 3);
        sentence("15: the length of the text;");
        for (int i = 0; i < 80; i++) {
            due(x, "count(15)", i);
            go(x, "type(65)");
        }
        due(x, "count(15)", 80);
        go(x, "undo()");
        due(x, "count(15)", 80);
        go(x, "clearText()");
        due(x, "count(15)", 0);
        sentence("20, 21: the settings 0, 1");
        go(x, "set(0, 120)", "set(1, 600)");
        due(x, "count(20)", 120);
        due(x, "count(21)", 600);
        sentence("Returns the number;");
        due(x, "count(14)", 4);
        sentence("INVALID_ARGUMENT if what is out of range.");
        dueForEach(x, "count(%)", outside(0, 21), INVALID);
        dueForEach(x, "count(%)", range(16, 19), INVALID);
    }
}
