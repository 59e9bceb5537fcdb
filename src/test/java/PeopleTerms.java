/** The section "Terms" up to "People and regions": times, spans, people, regions, who is on call. */
final class PeopleTerms extends Section {
    PeopleTerms(Sentences sentences) {
        super(sentences);
    }

    @Override
    void ask() {
        section("Terms");
        leaveOut("All numbers are whole numbers, where no float is told.");
        minutes();
        hours();
        hoursOfTheDay();
        leaveOut("Sets of people are told as bits: bit k is for the person k.");
        spans();
        section("People and regions");
        people();
        regions();
        rotas();
        covering();
        regionOnCall();
        overrides();
        places();
    }

    private void minutes() {
        sentence("Time is told in minutes, 0 at first;");
        PageRotas x = new PageRotas();
        due(x, "count(2)", 0);
        go(x, "pass(1)");
        due(x, "count(2)", 1);
        go(x, "pass(600)");
        due(x, "count(2)", 601);
    }

    private void hours() {
        sentence("the hour of a time is the time divided by 60, rounded down,");
        PageRotas x = watch(3, 1);
        int[] times = {0, 59, 60, 119, 120, 179, 180};
        int[] people = {0, 0, 1, 1, 2, 2, 0};
        for (int i = 0; i < times.length; i++) {
            due(x, "onCall(" + times[i] + ", 0)", people[i]);
        }
        for (int i = 0; i < times.length; i++) {
            passTo(x, times[i]);
            due(x, "onCall(0, 0)", people[i]);
        }
    }

    private void hoursOfTheDay() {
        sentence("and the hour of the day is the remainder of it when divided by 24.");
        PageRotas x = people(5);
        go(x, "region(0, 1, 1)", "quiet(0, 0, 1)");
        joinAll(x, 0, 5);
        for (int day = 0; day < 20; day++) {
            int start = 1440 * day;
            due(x, "onCall(" + start + ", -1)", 0);
            due(x, "onCall(" + (start + 59) + ", -1)", 0);
            due(x, "onCall(" + (start + 60) + ", -1)", NOT_FOUND);
            due(x, "onCall(" + (start + 1439) + ", -1)", NOT_FOUND);
            due(x, "onCall(" + start + ", 0)", 24 * day % 5);
        }
        int[] times = {59, 60, 1439, 1440, 1499, 1500, 2879, 2880, 2939, 2940};
        int[] quiet = {1, 0, 0, 1, 1, 0, 0, 1, 1, 0};
        for (int i = 0; i < times.length; i++) {
            passTo(x, times[i]);
            due(x, "personOf(0, 5)", quiet[i]);
        }
    }

    private void spans() {
        sentence("A span of hours of the day from one to another one has the hours from the first one on, up to the "
            + "one ahead of the second one;");
        for (int from = 0; from < 24; from++) {
            for (int to = from + 1; to < 24; to++) {
                dueSpan(from, to);
            }
        }
        sentence("if the first one is greater, it goes over midnight;");
        for (int from = 0; from < 24; from++) {
            for (int to = 0; to < from; to++) {
                dueSpan(from, to);
            }
        }
        sentence("if both are the same, it has none.");
        for (int hour = 0; hour < 24; hour++) {
            dueQuiet(hour, hour);
        }
    }

    private static boolean isIn(int hour, int from, int to) {
        for (int h = from; h != to; h = (h + 1) % 24) {
            if (h == hour) {
                return true;
            }
        }
        return false;
    }

    private void dueSpan(int from, int to) {
        dueQuiet(from, to);
        PageRotas x = people(1);
        go(x, "region(" + from + ", " + to + ", 1)", "join(0, 0)");
        for (int hour = 0; hour < 24; hour++) {
            int want = isIn(hour, from, to) ? 0 : NOT_FOUND;
            due(x, "onCall(" + 60 * hour + ", -1)", want);
            due(x, "onCall(" + (60 * hour + 59) + ", 0)", want);
        }
    }

    private void dueQuiet(int from, int to) {
        PageRotas x = people(1);
        go(x, "quiet(0, " + from + ", " + to + ")");
        for (int hour = 0; hour < 24; hour++) {
            int want = isIn(hour, from, to) ? 1 : 0;
            due("quiet from " + from + " to " + to + ", hour " + hour, call(x, "personOf(0, 5)"), want);
            go(x, "pass(59)");
            due("quiet from " + from + " to " + to + ", end of " + hour, call(x, "personOf(0, 5)"), want);
            go(x, "pass(1)");
        }
    }

    private void people() {
        sentence("There are at most 8 people, numbered from 0,");
        PageRotas x = new PageRotas();
        for (int i = 0; i < 8; i++) {
            due(x, "person()", i);
            due(x, "personOf(" + (i + 1) + ", 0)", INVALID);
        }
        due(x, "person()", LIMIT);
        due(x, "count(0)", 8);
        sentence("each with quiet hours, a span of hours of the day,");
        for (int i = 0; i < 8; i++) {
            due(x, "quiet(" + i + ", " + (i < 4 ? 0 : 3) + ", " + (i + 1) + ")", i < 4 ? i + 1 : i - 2);
        }
        for (int i = 0; i < 8; i++) {
            due(x, "personOf(" + i + ", 5)", i < 4 ? 1 : 0);
        }
        sentence("and a set of causes (0 to 19, as bits) that are exceptions.");
        for (int i = 0; i < 8; i++) {
            due(x, "except(" + i + ", " + i + ")", 1);
            due(x, "except(" + i + ", 19)", 2);
        }
        for (int i = 0; i < 8; i++) {
            due(x, "personOf(" + i + ", 6)", 1 << i | 1 << 19);
        }
        dueForEach(x, "except(0, %)", outside(0, 19), INVALID);
        PageRotas y = people(1);
        for (int cause = 0; cause <= 19; cause++) {
            due(y, "except(0, " + cause + ")", cause + 1);
            due(y, "personOf(0, 6)", (1 << cause + 1) - 1);
        }
    }

    private void regions() {
        sentence("There are at most 3 regions, numbered from 0,");
        PageRotas x = new PageRotas();
        for (int i = 0; i < 3; i++) {
            due(x, "rotaAt(" + i + ", 0)", INVALID);
            due(x, "region(0, 5, 1)", i);
            due(x, "rotaAt(" + i + ", 0)", NOT_FOUND);
        }
        due(x, "region(0, 5, 1)", LIMIT);
        due(x, "rotaAt(3, 0)", INVALID);
        due(x, "count(1)", 3);
        sentence("each with a span of hours of the day that is not empty,");
        for (int hour = 0; hour < 24; hour++) {
            PageRotas y = new PageRotas();
            due(y, "region(" + hour + ", " + hour + ", 1)", INVALID);
            due(y, "region(" + hour + ", " + (hour + 1) % 24 + ", 1)", 0);
            due(y, "region(" + (hour + 1) % 24 + ", " + hour + ", 1)", 1);
        }
        sentence("a shift (1 to 24 hours),");
        for (int shift = 1; shift <= 24; shift++) {
            due(new PageRotas(), "region(0, 5, " + shift + ")", 0);
        }
        dueForEach(new PageRotas(), "region(0, 5, %)", outside(1, 24), INVALID);
    }

    private void rotas() {
        sentence("and a rota: a row of at most 5 people, each once.");
        PageRotas x = people(8);
        go(x, "region(0, 5, 1)", "region(5, 9, 1)");
        for (int i = 0; i < 5; i++) {
            due(x, "join(0, " + (7 - i) + ")", i + 1);
            dueForEach(x, "join(0, %)", range(7 - i, 7), NOT_POSSIBLE);
        }
        dueForEach(x, "join(0, %)", range(0, 2), LIMIT);
        for (int i = 0; i < 5; i++) {
            due(x, "rotaAt(0, " + i + ")", 7 - i);
        }
        due(x, "rotaAt(0, 5)", NOT_FOUND);
        due("another rota", call(x, "join(1, 7)"), 1);
    }

    private void covering() {
        sentence("A region covers a time if the hour of the day is in its span and its rota has somebody.");
        PageRotas x = people(1);
        go(x, "region(2, 3, 1)");
        due(x, "onCall(120, -1)", NOT_FOUND);
        due(x, "uncovered()", 24);
        go(x, "join(0, 0)");
        due(x, "onCall(119, -1)", NOT_FOUND);
        due(x, "onCall(120, -1)", 0);
        due(x, "onCall(179, -1)", 0);
        due(x, "onCall(180, -1)", NOT_FOUND);
        due(x, "uncovered()", 23);
        go(x, "leave(0, 0)");
        due(x, "onCall(120, -1)", NOT_FOUND);
        go(x, "override(0, 0, 9)");
        due("a person of an override alone is nobody of the rota", call(x, "onCall(120, -1)"), NOT_FOUND);
        due(x, "onCall(120, 0)", NOT_FOUND);
        due(x, "uncovered()", 24);
    }

    private void regionOnCall() {
        sentence("The region on call at a time is the lowest one that covers it;");
        PageRotas x = people(1);
        go(x, "region(4, 6, 1)", "region(3, 8, 1)", "region(2, 9, 1)");
        go(x, "join(0, 0)", "join(1, 0)", "join(2, 0)");
        int[] hours = {2, 3, 4, 5, 6, 7, 8};
        int[] regions = {2, 1, 0, 0, 1, 1, 2};
        for (int i = 0; i < hours.length; i++) {
            due(x, "onCall(" + 60 * hours[i] + ", -1)", regions[i]);
            due(x, "onCall(" + (60 * hours[i] + 59) + ", -1)", regions[i]);
        }
        go(x, "leave(0, 0)");
        due(x, "onCall(240, -1)", 1);
        go(x, "leave(1, 0)");
        due(x, "onCall(240, -1)", 2);
        sentence("at other times there is none.");
        due(x, "onCall(119, -1)", NOT_FOUND);
        due(x, "onCall(540, -1)", NOT_FOUND);
        go(x, "leave(2, 0)");
        due(x, "onCall(240, -1)", NOT_FOUND);
        due(new PageRotas(), "onCall(0, -1)", NOT_FOUND);
    }

    private void overrides() {
        sentence("The people on call at a time are told by levels: at the level 0 the person of an override of the "
            + "region on call that is in force then");
        PageRotas x = people(5);
        go(x, "region(0, 2, 24)", "region(2, 9, 24)", "join(0, 0)", "join(0, 1)", "join(1, 2)");
        go(x, "override(0, 3, 1)", "override(1, 4, 3)");
        due(x, "onCall(59, 0)", 3);
        due("at the level 1 there is none", call(x, "onCall(59, 1)"), 1);
        due("at the level 2 there is none", call(x, "onCall(59, 2)"), 0);
        due("another region's override is none", call(x, "onCall(60, 0)"), 0);
        due(x, "onCall(119, 0)", 0);
        due(x, "onCall(120, 0)", 4);
        due(x, "onCall(179, 0)", 4);
        due(x, "onCall(180, 0)", 2);
        sentence("(of several the one that was made last),");
        go(x, "override(0, 4, 1)");
        due(x, "onCall(59, 0)", 4);
        go(x, "override(0, 2, 2)");
        due(x, "onCall(59, 0)", 2);
        go(x, "override(0, 3, 1)");
        due(x, "onCall(59, 0)", 3);
        due(x, "onCall(60, 0)", 2);
        go(x, "override(0, 2, 1)");
        due("the same person again", call(x, "onCall(59, 0)"), 2);
        sentence("or if there is none, like the other levels:");
        due(x, "onCall(120, 0)", 4);
        due("none in force any more", call(x, "onCall(1440, 0)"), 1);
        due(x, "onCall(1440, 1)", 0);
    }

    private void places() {
        sentence("the person at a place of its rota, which is the hour divided by the shift, rounded down, plus the "
            + "level, modulo the number of people in the rota.");
        for (int shift = 1; shift <= 24; shift++) {
            for (int people = 1; people <= 5; people++) {
                PageRotas x = watch(people, shift);
                for (int hour = 0; hour < 49; hour++) {
                    int level = (hour + shift) % 10;
                    int want = hour % 24 == 23 ? NOT_FOUND : (hour / shift + level) % people;
                    due(x, "onCall(" + (60 * hour + hour) + ", " + level + ")", want);
                    due(x, "onCall(" + 60 * hour + ", 0)", hour % 24 == 23 ? NOT_FOUND : hour / shift % people);
                }
            }
        }
        PageRotas y = watch(5, 24);
        for (int level = 0; level <= 9; level++) {
            due(y, "onCall(0, " + level + ")", level % 5);
        }
        PageRotas z = watch(3, 1);
        go(z, "leave(0, 0)");
        due("by place, not by number", call(z, "onCall(0, 0)"), 1);
        due("by place, not by number", call(z, "onCall(60, 0)"), 2);
        due("modulo the people that are left", call(z, "onCall(120, 0)"), 1);
    }
}
