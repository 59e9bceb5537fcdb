/** The sections "Promise 1" to "Promise 10": a new object, people, regions, rotas, overrides. */
final class PeoplePromises extends Section {
    PeoplePromises(Sentences sentences) {
        super(sentences);
    }

    @Override
    void ask() {
        newObject();
        person();
        region();
        join();
        leave();
        quiet();
        except();
        override();
        overridesInForce();
        overrideHours();
        rotaAt();
        personOf();
        personOfIncidents();
        personOfRest();
    }

    private void newObject() {
        section("Promise 1");
        sentence("`PageRotas()`: Creates a house without people and regions, at the time 0.");
        PageRotas x = new PageRotas();
        dueForEach(x, "count(%)", range(0, 15), 0);
        due(x, "count(20)", 10);
        due(x, "count(21)", 30);
        dueForEach(x, "personOf(%, 0)", range(0, 7), INVALID);
        dueForEach(x, "rotaAt(%, 0)", range(0, 2), INVALID);
        dueForEach(x, "incidentOf(%, 0)", range(0, 7), INVALID);
        due(x, "uncovered()", 24);
        due(x, "onCall(0, 0)", NOT_FOUND);
        due(x, "onCall(0, -1)", NOT_FOUND);
        due(x, "acknowledgeBits()", NOT_FOUND);
        due(x, "unownedBits()", NOT_FOUND);
        due(x, "fault(0)", NOT_FOUND);
        due(x, "undo()", NOT_POSSIBLE);
        String fresh = told(new PageRotas());
        PageRotas used = watch(3, 1);
        go(used, "alert(1, 1)", "pass(500)", "set(0, 5)", "override(0, 1, 1)", "type(65)");
        due("one object is nothing to another", told(new PageRotas()).equals(fresh) ? 1 : 0, 1);
        due(x, "person()", 0);
        due(x, "region(0, 1, 1)", 0);
    }

    private void person() {
        section("Promise 2");
        sentence("`int person()`: Adds a person, without quiet hours and exceptions.");
        PageRotas x = new PageRotas();
        go(x, "person()", "quiet(0, 0, 23)", "except(0, 3)", "except(0, 0)", "person()");
        for (int what = 0; what <= 6; what++) {
            due(x, "personOf(1, " + what + ")", 0);
        }
        go(x, "quiet(1, 0, 23)", "except(1, 3)", "undo()", "undo()", "undo()");
        due("a number used again after undo", call(x, "person()"), 1);
        due(x, "personOf(1, 5)", 0);
        due(x, "personOf(1, 6)", 0);
        sentence("Returns the number of the person;");
        PageRotas y = new PageRotas();
        for (int i = 0; i < 8; i++) {
            due(y, "person()", i);
        }
        sentence("LIMIT_REACHED if there are 8.");
        due(y, "person()", LIMIT);
        due(y, "person()", LIMIT);
        due(y, "count(0)", 8);
        due(y, "undo()", 3);
        due(y, "person()", 7);
        due(y, "person()", LIMIT);
    }

    private void region() {
        section("Promise 3");
        sentence("`int region(int from, int to, int shift)`: Adds a region with an empty rota.");
        PageRotas x = people(2);
        go(x, "region(0, 5, 1)", "join(0, 0)", "region(5, 9, 1)");
        due(x, "rotaAt(1, 0)", NOT_FOUND);
        due(x, "onCall(300, -1)", NOT_FOUND);
        go(x, "join(1, 1)", "undo()", "undo()", "region(5, 9, 1)");
        due("a number used again after undo", call(x, "rotaAt(1, 0)"), NOT_FOUND);
        due(x, "join(1, 0)", 1);
        sentence("- `from`: 0 to 23");
        due(new PageRotas(), "region(0, 5, 1)", 0);
        due(new PageRotas(), "region(23, 5, 1)", 0);
        dueForEach(new PageRotas(), "region(%, 5, 1)", outside(0, 23), INVALID);
        sentence("- `to`: 0 to 23, another one");
        due(new PageRotas(), "region(5, 0, 1)", 0);
        due(new PageRotas(), "region(5, 23, 1)", 0);
        dueForEach(new PageRotas(), "region(5, %, 1)", outside(0, 23), INVALID);
        for (int hour = 0; hour <= 23; hour++) {
            due(new PageRotas(), "region(" + hour + ", " + hour + ", 1)", INVALID);
        }
        sentence("- `shift`: 1 to 24");
        due(new PageRotas(), "region(5, 6, 1)", 0);
        due(new PageRotas(), "region(5, 6, 24)", 0);
        dueForEach(new PageRotas(), "region(5, 6, %)", outside(1, 24), INVALID);
        sentence("Returns its number;");
        PageRotas y = new PageRotas();
        due(y, "region(5, 6, 1)", 0);
        due(y, "region(5, 6, 1)", 1);
        due(y, "region(5, 6, 1)", 2);
        sentence("INVALID_ARGUMENT if an argument is out of range or both hours are the same;");
        due("with 3 regions, too", call(y, "region(24, 6, 1)"), INVALID);
        due(y, "region(5, 24, 1)", INVALID);
        due(y, "region(5, 6, 25)", INVALID);
        due(y, "region(7, 7, 1)", INVALID);
        sentence("LIMIT_REACHED if there are 3.");
        due(y, "region(7, 8, 1)", LIMIT);
        due(y, "count(1)", 3);
        due(y, "undo()", 2);
        due(y, "region(7, 8, 1)", 2);
    }

    private void join() {
        section("Promise 4");
        sentence("`int join(int region, int person)`: Lets a person join a rota, as the last one.");
        PageRotas x = people(6);
        go(x, "region(0, 12, 1)", "region(12, 0, 1)", "join(0, 4)", "join(0, 1)", "join(0, 3)");
        int[] rota = {4, 1, 3};
        for (int i = 0; i < 3; i++) {
            due(x, "rotaAt(0, " + i + ")", rota[i]);
        }
        due(x, "rotaAt(0, 3)", NOT_FOUND);
        due("the other rota is as before", call(x, "rotaAt(1, 0)"), NOT_FOUND);
        go(x, "leave(0, 4)", "join(0, 4)");
        due("behind the others when joining again", call(x, "rotaAt(0, 2)"), 4);
        sentence("- `region`: number of the region");
        dueForEach(x, "join(%, 0)", outside(0, 1), INVALID);
        sentence("- `person`: number of the person");
        dueForEach(x, "join(0, %)", outside(0, 5), INVALID);
        sentence("Returns how many are in it then;");
        PageRotas y = people(8);
        go(y, "region(0, 12, 1)", "region(12, 0, 1)");
        for (int i = 1; i <= 5; i++) {
            due(y, "join(0, " + i + ")", i);
        }
        due("in this one alone", call(y, "join(1, 3)"), 1);
        sentence("INVALID_ARGUMENT if an argument is out of range;");
        due("of a full rota", call(y, "join(0, 8)"), INVALID);
        due(y, "join(2, 3)", INVALID);
        due(y, "join(-1, -1)", INVALID);
        sentence("NOT_POSSIBLE if the person is in it;");
        due("the first one of a full rota", call(y, "join(0, 1)"), NOT_POSSIBLE);
        due("the last one of a full rota", call(y, "join(0, 5)"), NOT_POSSIBLE);
        due("the only one", call(y, "join(1, 3)"), NOT_POSSIBLE);
        sentence("LIMIT_REACHED if 5 are in it.");
        due(y, "join(0, 0)", LIMIT);
        due(y, "join(0, 7)", LIMIT);
        due(y, "rotaAt(0, 5)", NOT_FOUND);
        go(y, "leave(0, 2)");
        due(y, "join(0, 7)", 5);
        due(y, "join(0, 2)", LIMIT);
    }

    private void leave() {
        section("Promise 5");
        sentence("`int leave(int region, int person)`: Lets a person leave a rota; those behind move up.");
        for (int place = 0; place < 5; place++) {
            PageRotas x = people(5);
            go(x, "region(0, 12, 1)", "region(12, 0, 1)");
            joinAll(x, 0, 5);
            joinAll(x, 1, 5);
            due(x, "leave(0, " + place + ")", 4);
            for (int i = 0; i < 4; i++) {
                due("rotaAt(0, " + i + ") after leave(0, " + place + ")", call(x, "rotaAt(0, " + i + ")"),
                    i < place ? i : i + 1);
            }
            due(x, "rotaAt(0, 4)", NOT_FOUND);
            for (int i = 0; i < 5; i++) {
                due("the other rota is as before", call(x, "rotaAt(1, " + i + ")"), i);
            }
        }
        PageRotas y = people(6);
        go(y, "region(0, 12, 1)", "region(12, 0, 1)");
        joinAll(y, 0, 5);
        sentence("- `region`: number of the region");
        dueForEach(y, "leave(%, 0)", outside(0, 1), INVALID);
        sentence("- `person`: number of the person");
        dueForEach(y, "leave(0, %)", outside(0, 5), INVALID);
        sentence("Returns how many are in it then;");
        int[] people = {2, 4, 0, 1, 3};
        for (int i = 0; i < 5; i++) {
            due(y, "leave(0, " + people[i] + ")", 4 - i);
        }
        due("nobody is left", call(y, "rotaAt(0, 0)"), NOT_FOUND);
        due(y, "uncovered()", 24);
        sentence("INVALID_ARGUMENT if an argument is out of range;");
        due(y, "leave(2, 0)", INVALID);
        due(y, "leave(0, 6)", INVALID);
        due(y, "leave(-1, 0)", INVALID);
        sentence("NOT_POSSIBLE if the person is not in it.");
        due("of an empty rota", call(y, "leave(0, 3)"), NOT_POSSIBLE);
        go(y, "join(1, 5)", "join(0, 2)");
        due("in another rota", call(y, "leave(0, 5)"), NOT_POSSIBLE);
        due(y, "leave(1, 5)", 0);
        due("twice", call(y, "leave(1, 5)"), NOT_POSSIBLE);
    }

    private void quiet() {
        section("Promise 6");
        sentence("`int quiet(int person, int from, int to)`: Sets the quiet hours of a person.");
        PageRotas x = people(3);
        go(x, "quiet(1, 0, 1)");
        due(x, "personOf(0, 5)", 0);
        due(x, "personOf(1, 5)", 1);
        due(x, "personOf(2, 5)", 0);
        go(x, "quiet(1, 1, 2)");
        due("the earlier ones are none any more", call(x, "personOf(1, 5)"), 0);
        go(x, "pass(60)");
        due(x, "personOf(1, 5)", 1);
        sentence("- `person`: number of the person");
        due(x, "quiet(0, 0, 5)", 5);
        due(x, "quiet(2, 0, 6)", 6);
        dueForEach(x, "quiet(%, 0, 5)", outside(0, 2), INVALID);
        sentence("- `from`: 0 to 23");
        due(x, "quiet(0, 0, 5)", 5);
        due(x, "quiet(0, 23, 5)", 6);
        dueForEach(x, "quiet(0, %, 5)", outside(0, 23), INVALID);
        sentence("- `to`: 0 to 23");
        due(x, "quiet(0, 5, 0)", 19);
        due(x, "quiet(0, 5, 23)", 18);
        dueForEach(x, "quiet(0, 5, %)", outside(0, 23), INVALID);
        sentence("Returns how many hours of the day they have;");
        for (int from = 0; from <= 23; from++) {
            PageRotas y = people(1);
            for (int to = 0; to <= 23; to++) {
                due(y, "quiet(0, " + from + ", " + to + ")", (to - from + 24) % 24);
            }
        }
        sentence("INVALID_ARGUMENT if an argument is out of range.");
        due(x, "quiet(3, 0, 5)", INVALID);
        due(x, "quiet(0, 24, 24)", INVALID);
        due(x, "quiet(0, -1, -1)", INVALID);
        due("of nobody", call(new PageRotas(), "quiet(0, 0, 5)"), INVALID);
    }

    private void except() {
        section("Promise 7");
        sentence("`int except(int person, int cause)`: Makes a cause an exception of a person, or makes it none any "
            + "more, if it is one.");
        PageRotas x = people(3);
        for (int cause = 0; cause <= 19; cause++) {
            due(x, "except(1, " + cause + ")", 1);
            due(x, "personOf(1, 6)", 1 << cause);
            due(x, "personOf(0, 6)", 0);
            due(x, "except(1, " + cause + ")", 0);
            due(x, "personOf(1, 6)", 0);
        }
        sentence("- `person`: number of the person");
        due(x, "except(0, 4)", 1);
        due(x, "except(2, 4)", 1);
        dueForEach(x, "except(%, 4)", outside(0, 2), INVALID);
        sentence("- `cause`: 0 to 19");
        due(x, "except(0, 0)", 2);
        due(x, "except(0, 19)", 3);
        dueForEach(x, "except(0, %)", outside(0, 19), INVALID);
        sentence("Returns how many exceptions the person has then;");
        PageRotas y = people(2);
        for (int cause = 0; cause <= 19; cause++) {
            due(y, "except(0, " + (19 - cause) + ")", cause + 1);
        }
        due("of this person alone", call(y, "except(1, 5)"), 1);
        for (int cause = 0; cause <= 19; cause++) {
            due(y, "except(0, " + cause + ")", 19 - cause);
        }
        sentence("INVALID_ARGUMENT if an argument is out of range.");
        due(y, "except(2, 0)", INVALID);
        due(y, "except(0, 20)", INVALID);
        due(y, "except(-1, -1)", INVALID);
    }

    private void override() {
        section("Promise 8");
        sentence("`int override(int region, int person, int hours)`: Makes an override, in force from now on.");
        PageRotas x = watch(1, 24);
        go(x, "person()", "pass(59)");
        due(x, "onCall(0, 0)", 0);
        go(x, "override(0, 1, 1)");
        due(x, "onCall(0, 0)", 1);
        go(x, "alert(1, 1)");
        due(x, "incidentOf(0, 3)", 1);
        sentence("- `region`: number of the region");
        dueForEach(x, "override(%, 1, 1)", outside(0, 0), INVALID);
        sentence("- `person`: number of the person");
        due("one of the rota, too", call(x, "override(0, 0, 1)"), 2);
        dueForEach(x, "override(0, %, 1)", outside(0, 1), INVALID);
        sentence("INVALID_ARGUMENT if an argument is out of range;");
        for (int i = 3; i <= 6; i++) {
            due(x, "override(0, 1, 1)", i);
        }
        due("when 6 are in force, too", call(x, "override(1, 1, 1)"), INVALID);
        due(x, "override(0, 2, 1)", INVALID);
        due(x, "override(0, 1, 0)", INVALID);
        due(x, "override(0, 1, 100)", INVALID);
        sentence("LIMIT_REACHED if 6 are in force.");
        due(x, "override(0, 1, 1)", LIMIT);
        go(x, "pass(59)");
        due("in their last minute", call(x, "override(0, 1, 1)"), LIMIT);
        go(x, "pass(1)");
        due(x, "override(0, 1, 1)", 1);
        PageRotas y = people(1);
        go(y, "region(0, 12, 1)", "region(12, 0, 1)", "region(5, 6, 1)");
        for (int i = 0; i < 6; i++) {
            due("of all regions together", call(y, "override(" + i % 3 + ", 0, 99)"), i + 1);
        }
        dueForEach(y, "override(%, 0, 1)", range(0, 2), LIMIT);
        due(y, "undo()", 3);
        due(y, "override(2, 0, 1)", 6);
    }

    private void overridesInForce() {
        sentence("Returns how many are in force then;");
        PageRotas z = watch(1, 24);
        due(z, "override(0, 0, 1)", 1);
        due(z, "override(0, 0, 3)", 2);
        due(z, "override(0, 0, 1)", 3);
        go(z, "pass(60)");
        due("two have ended", call(z, "override(0, 0, 1)"), 2);
        go(z, "pass(60)");
        due("another one has ended", call(z, "override(0, 0, 1)"), 2);
        go(z, "pass(60)");
        due("all have ended", call(z, "override(0, 0, 1)"), 1);
        PageRotas w = watch(1, 24);
        go(w, "override(0, 0, 1)", "override(0, 0, 1)", "override(0, 0, 3)", "pass(60)");
        due("the last one is left", call(w, "override(0, 0, 9)"), 2);
        due(w, "count(13)", 2);
        due(w, "override(0, 0, 9)", 3);
        dueWhenOthersEnd();
    }

    private void dueWhenOthersEnd() {
        PageRotas x = people(6);
        go(x, "region(0, 23, 24)", "join(0, 0)", "override(0, 1, 1)", "override(0, 2, 4)", "override(0, 3, 1)");
        go(x, "override(0, 4, 3)", "pass(60)");
        due(x, "override(0, 5, 1)", 3);
        int[] people = {5, 4, 2, 0};
        for (int hour = 0; hour < 4; hour++) {
            due(x, "onCall(" + 60 * hour + ", 0)", people[hour]);
            due(x, "onCall(" + (60 * hour + 59) + ", 0)", people[hour]);
        }
        PageRotas y = people(3);
        go(y, "region(0, 2, 24)", "region(2, 5, 24)", "join(0, 0)", "join(1, 0)", "override(0, 1, 1)");
        go(y, "override(1, 2, 9)", "pass(60)");
        due(y, "override(0, 1, 1)", 2);
        due("each stays with its region", call(y, "onCall(0, 0)"), 1);
        due("each stays with its region", call(y, "onCall(60, 0)"), 2);
    }

    private void overrideHours() {
        sentence("- `hours`: 1 to 99: it is in force for 60 times as many minutes, this one included");
        for (int hours = 1; hours <= 99; hours++) {
            PageRotas x = people(2);
            go(x, "region(0, 12, 24)", "join(0, 0)", "pass(5)");
            due(x, "override(0, 1, " + hours + ")", 1);
            int last = 60 * hours - 1;
            boolean covered = (last + 5) / 60 % 24 < 12;
            due(x, "onCall(" + last + ", 0)", covered ? 1 : NOT_FOUND);
            due("behind it", call(x, "onCall(" + (last + 1) + ", 0)"), covered ? 0 : NOT_FOUND);
            passTo(x, 5 + last);
            due("in force at the last minute of " + hours + " hours", call(x, "count(13)"), 1);
            go(x, "pass(1)");
            due("in force behind it", call(x, "count(13)"), 0);
        }
        PageRotas y = watch(1, 1);
        dueForEach(y, "override(0, 0, %)", outside(1, 99), INVALID);
    }

    private void rotaAt() {
        section("Promise 9");
        sentence("`int rotaAt(int region, int index)`: Returns a person of a rota.");
        PageRotas x = people(6);
        go(x, "region(0, 12, 1)", "region(12, 0, 1)", "join(1, 5)", "join(1, 0)", "join(1, 3)");
        due(x, "rotaAt(1, 1)", 0);
        due(x, "rotaAt(0, 1)", NOT_FOUND);
        sentence("- `region`: number of the region");
        dueForEach(x, "rotaAt(%, 0)", outside(0, 1), INVALID);
        sentence("- `index`: 0 for the first one, and so on");
        due(x, "rotaAt(1, 0)", 5);
        due(x, "rotaAt(1, 2)", 3);
        sentence("Returns the number of the person;");
        go(x, "join(1, 4)", "join(1, 2)");
        int[] rota = {5, 0, 3, 4, 2};
        for (int i = 0; i < 5; i++) {
            due(x, "rotaAt(1, " + i + ")", rota[i]);
        }
        sentence("INVALID_ARGUMENT if there is no such region or index is negative;");
        due(x, "rotaAt(2, 0)", INVALID);
        due(x, "rotaAt(2, 9)", INVALID);
        due(x, "rotaAt(1, -1)", INVALID);
        due(x, "rotaAt(0, -1)", INVALID);
        due(x, "rotaAt(1, " + Integer.MIN_VALUE + ")", INVALID);
        sentence("NOT_FOUND if there are not so many.");
        due(x, "rotaAt(1, 5)", NOT_FOUND);
        due(x, "rotaAt(1, 6)", NOT_FOUND);
        due(x, "rotaAt(1, 256)", NOT_FOUND);
        due(x, "rotaAt(1, " + Integer.MAX_VALUE + ")", NOT_FOUND);
        due(x, "rotaAt(0, 0)", NOT_FOUND);
        go(x, "leave(1, 5)");
        due(x, "rotaAt(1, 4)", NOT_FOUND);
        due(x, "rotaAt(1, 3)", 2);
    }

    private void personOf() {
        section("Promise 10");
        sentence("`int personOf(int person, int what)`: Returns something of a person.");
        PageRotas x = watch(2, 24);
        for (int what = 0; what <= 6; what++) {
            due(x, "personOf(1, " + what + ")", what == 4 ? 1 : 0);
        }
        sentence("- `person`: number of the person");
        dueForEach(x, "personOf(%, 4)", outside(0, 1), INVALID);
        sentence("- `what`: 0: how often the person was paged so far;");
        due(x, "personOf(0, 0)", 0);
        go(x, "alert(1, 1)");
        due(x, "personOf(0, 0)", 1);
        go(x, "alert(1, 2)", "acknowledge(0)");
        due("a folded alert is no page", call(x, "personOf(0, 0)"), 1);
        go(x, "alert(2, 1)", "pass(20)");
        due(x, "personOf(0, 0)", 3);
        due(x, "personOf(1, 0)", 1);
        go(x, "resolve(0)", "resolve(1)");
        due("of resolved ones, too", call(x, "personOf(0, 0)"), 3);
        go(x, "quiet(0, 0, 23)", "alert(3, 0)");
        due("no page in quiet hours", call(x, "personOf(0, 0)"), 3);
    }

    private void personOfIncidents() {
        sentence("1: incidents owned now;");
        PageRotas x = watch(2, 24);
        for (int i = 0; i < 8; i++) {
            go(x, "alert(" + i + ", 1)");
            due(x, "personOf(0, 1)", i + 1);
        }
        due(x, "personOf(1, 1)", 0);
        go(x, "acknowledge(0)", "acknowledge(3)", "acknowledge(7)");
        due("acknowledged ones, too", call(x, "personOf(0, 1)"), 8);
        sentence("2: of these, acknowledged ones;");
        due(x, "personOf(0, 2)", 3);
        go(x, "pass(10)");
        due("those that are not are the other one's now", call(x, "personOf(0, 1)"), 3);
        due(x, "personOf(1, 1)", 5);
        due(x, "personOf(1, 2)", 0);
        due(x, "personOf(0, 2)", 3);
        sentence("3: incidents that the person resolved as their owner so far;");
        due(x, "personOf(0, 3)", 0);
        go(x, "resolve(3)");
        due(x, "personOf(0, 3)", 1);
        due(x, "personOf(1, 3)", 0);
        due("it is owned no longer", call(x, "personOf(0, 1)"), 2);
        due("it is owned no longer", call(x, "personOf(0, 2)"), 2);
        go(x, "resolve(1)");
        due("by the owner, not by those paged before", call(x, "personOf(0, 3)"), 1);
        due(x, "personOf(1, 3)", 1);
        go(x, "quiet(0, 0, 23)", "alert(9, 0)", "resolve(1)");
        due("without an owner by nobody", call(x, "personOf(0, 3)"), 1);
        due("without an owner by nobody", call(x, "personOf(1, 3)"), 1);
        due(x, "count(9)", 3);
    }

    private void personOfRest() {
        sentence("4: the rotas the person is in, as a set of regions;");
        PageRotas x = people(8);
        go(x, "region(0, 1, 1)", "region(1, 2, 1)", "region(2, 3, 1)");
        for (int set = 0; set <= 7; set++) {
            for (int region = 0; region <= 2; region++) {
                if ((set >> region & 1) == 1) {
                    go(x, "join(" + region + ", " + set + ")");
                }
            }
            due(x, "personOf(" + set + ", 4)", set);
        }
        go(x, "leave(1, 7)");
        due(x, "personOf(7, 4)", 5);
        go(x, "override(1, 7, 9)");
        due("an override is no rota", call(x, "personOf(7, 4)"), 5);
        sentence("5: 1 if the present hour is quiet, otherwise 0;");
        go(x, "quiet(0, 23, 1)", "quiet(1, 1, 23)", "quiet(2, 0, 0)");
        int[] times = {0, 59, 60, 61, 1379, 1380, 1439, 1440, 1499, 1500};
        int[] quiet = {1, 1, 0, 0, 0, 1, 1, 1, 1, 0};
        for (int i = 0; i < times.length; i++) {
            passTo(x, times[i]);
            due("at " + times[i] + ", personOf(0, 5)", call(x, "personOf(0, 5)"), quiet[i]);
            due("at " + times[i] + ", personOf(1, 5)", call(x, "personOf(1, 5)"), 1 - quiet[i]);
            due("at " + times[i] + ", personOf(2, 5)", call(x, "personOf(2, 5)"), 0);
        }
        sentence("6: the exceptions, as bits");
        go(x, "except(3, 0)", "except(3, 19)");
        due(x, "personOf(3, 6)", 1 + (1 << 19));
        go(x, "except(3, 0)");
        due(x, "personOf(3, 6)", 1 << 19);
        due(x, "personOf(4, 6)", 0);
        sentence("Returns the number;");
        due(x, "personOf(7, 4)", 5);
        sentence("INVALID_ARGUMENT if an argument is out of range.");
        dueForEach(x, "personOf(0, %)", outside(0, 6), INVALID);
        dueForEach(x, "personOf(%, 0)", outside(0, 7), INVALID);
        due("of nobody", call(new PageRotas(), "personOf(0, 0)"), INVALID);
    }
}
