/** Promises 11 to 17: alerts, acknowledging, resolving, minutes, settings, and what is told of them. */
public final class IncidentsTest {
    private static final int INVALID = PageRotas.INVALID_ARGUMENT;
    private static final int NOT_POSSIBLE = PageRotas.NOT_POSSIBLE;
    private static final int LIMIT = PageRotas.LIMIT_REACHED;
    private static final int NOT_FOUND = PageRotas.NOT_FOUND;

    private static final Check check = new Check("IncidentsTest");

    public static void main(String[] args) {
        alert();
        folding();
        foldingIntoTheLowest();
        foldingPagesForHigherSeverity();
        acknowledge();
        resolve();
        passArguments();
        escalation();
        escalationToQuietPeople();
        escalationAndOverride();
        handOff();
        handOffToNobody();
        handOffByARota();
        minutesUnowned();
        numbersAreFresh();
        set();
        incidentOf();
        count();
        check.end();
    }

    /** One region round the clock but for its last hour, with the people in its rota in their order. */
    private static PageRotas house(int people, int shift) {
        PageRotas x = new PageRotas();
        x.region(0, 23, shift);
        for (int i = 0; i < people; i++) {
            x.person();
            x.join(0, i);
        }
        return x;
    }

    private static void alert() {
        check.about("promise 11");
        PageRotas x = house(1, 1);
        check.due("alert(-1, 0)", x.alert(-1, 0), INVALID);
        check.due("alert(20, 0)", x.alert(20, 0), INVALID);
        check.due("alert(0, -1)", x.alert(0, -1), INVALID);
        check.due("alert(0, 3)", x.alert(0, 3), INVALID);
        check.due("count(6)", x.count(6), 0);
        for (int i = 0; i < 8; i++) {
            check.due("alert(" + (19 - i) + ", 2)", x.alert(19 - i, 2), i);
        }
        check.due("alert(0, 0) too many", x.alert(0, 0), LIMIT);
        check.due("alert(0, 3) too many", x.alert(0, 3), INVALID);
        check.due("alert(19, 0) folds", x.alert(19, 0), 0);
        check.due("its severity stays", x.incidentOf(0, 1), 2);
        check.due("count(6)", x.count(6), 9);
        check.due("count(7)", x.count(7), 1);
        x.resolve(5);
        x.resolve(3);
        check.due("alert(0, 0) gets the lowest number", x.alert(0, 0), 3);
        check.due("alert(1, 0)", x.alert(1, 0), 5);
        check.due("alert(2, 0)", x.alert(2, 0), LIMIT);
        check.due("a new incident is paged for", x.incidentOf(3, 3), 0);
        check.due("a new incident has one alert", x.incidentOf(3, 5), 1);
    }

    private static void folding() {
        check.about("promise 11, folding");
        PageRotas x = house(1, 1);
        x.alert(7, 0);
        x.pass(30);
        check.due("alert(7, 1) after 30", x.alert(7, 1), 0);
        check.due("severity", x.incidentOf(0, 1), 1);
        check.due("alerts", x.incidentOf(0, 5), 2);
        check.due("first alert", x.incidentOf(0, 6), 0);
        check.due("latest alert", x.incidentOf(0, 7), 30);
        x.pass(30);
        check.due("alert(7, 0) after 30 more", x.alert(7, 0), 0);
        check.due("severity", x.incidentOf(0, 1), 1);
        check.due("alert(8, 0) is another cause", x.alert(8, 0), 1);
        x.pass(31);
        check.due("alert(7, 0) after 31", x.alert(7, 0), 2);
        check.due("alerts of the old one", x.incidentOf(0, 5), 3);
        check.due("alerts of the new one", x.incidentOf(2, 5), 1);
        x.set(1, 0);
        check.due("alert(7, 2) in the same minute", x.alert(7, 2), 2);
        x.pass(1);
        check.due("alert(7, 2) a minute later", x.alert(7, 2), 3);
        check.due("count(7)", x.count(7), 3);
    }

    private static void foldingIntoTheLowest() {
        check.about("promise 11, folding into the lowest");
        PageRotas x = house(1, 1);
        x.alert(4, 0);
        x.pass(31);
        check.due("alert(4, 0)", x.alert(4, 0), 1);
        x.set(1, 600);
        check.due("alert(4, 0) of two", x.alert(4, 0), 0);
        check.due("alerts of 0", x.incidentOf(0, 5), 2);
        check.due("alerts of 1", x.incidentOf(1, 5), 1);
        x.resolve(0);
        check.due("alert(4, 0) of the other", x.alert(4, 0), 1);
    }

    private static void foldingPagesForHigherSeverity() {
        check.about("promise 11, a greater severity");
        PageRotas x = house(1, 1);
        x.quiet(0, 0, 23);
        x.alert(4, 0);
        check.due("no owner", x.incidentOf(0, 3), NOT_FOUND);
        x.alert(4, 0);
        check.due("still none", x.incidentOf(0, 3), NOT_FOUND);
        x.quiet(0, 0, 0);
        x.alert(4, 0);
        check.due("the same severity does not page", x.incidentOf(0, 3), NOT_FOUND);
        x.quiet(0, 0, 23);
        x.pass(3);
        x.alert(4, 1);
        check.due("paged for at once", x.incidentOf(0, 3), 0);
        check.due("page", x.incidentOf(0, 9), 3);
        check.due("pages", x.count(8), 1);
        x.pass(3);
        x.alert(4, 2);
        check.due("an owned one is not paged for", x.incidentOf(0, 9), 3);
        check.due("pages", x.count(8), 1);
        check.due("severity", x.incidentOf(0, 1), 2);
        x.acknowledge(0);
        x.alert(4, 2);
        check.due("stays acknowledged", x.incidentOf(0, 4), 1);
    }

    private static void acknowledge() {
        check.about("promise 12");
        PageRotas x = house(1, 1);
        check.due("acknowledge(0)", x.acknowledge(0), INVALID);
        x.alert(1, 1);
        x.pass(7);
        check.due("acknowledge(-1)", x.acknowledge(-1), INVALID);
        check.due("acknowledge(1)", x.acknowledge(1), INVALID);
        check.due("acknowledge(8)", x.acknowledge(8), INVALID);
        check.due("acknowledge(0)", x.acknowledge(0), 7);
        check.due("incidentOf(0, 4)", x.incidentOf(0, 4), 1);
        check.due("acknowledge(0) twice", x.acknowledge(0), NOT_POSSIBLE);
        x.pass(50);
        check.due("is not escalated", x.incidentOf(0, 2), 0);
        x.quiet(0, 0, 23);
        x.alert(2, 0);
        check.due("acknowledge(1) without owner", x.acknowledge(1), NOT_POSSIBLE);

        PageRotas y = house(2, 24);
        y.alert(1, 1);
        y.pass(14);
        check.due("acknowledge(0) since the later page", y.acknowledge(0), 4);
    }

    private static void resolve() {
        check.about("promise 13");
        PageRotas x = house(1, 1);
        check.due("resolve(0)", x.resolve(0), INVALID);
        x.pass(5);
        x.alert(1, 1);
        x.alert(2, 1);
        x.pass(12);
        x.alert(1, 1);
        check.due("resolve(-1)", x.resolve(-1), INVALID);
        check.due("resolve(8)", x.resolve(8), INVALID);
        check.due("resolve(2)", x.resolve(2), INVALID);
        check.due("resolve(0)", x.resolve(0), 12);
        check.due("resolve(0) twice", x.resolve(0), INVALID);
        check.due("incidentOf(0, 0)", x.incidentOf(0, 0), INVALID);
        check.due("count(3)", x.count(3), 1);
        check.due("count(9)", x.count(9), 1);
        check.due("alert(1, 1) is a new one", x.alert(1, 1), 0);
        check.due("first alert", x.incidentOf(0, 6), 17);
        check.due("alerts", x.incidentOf(0, 5), 1);
        check.due("level", x.incidentOf(0, 2), 0);
        check.due("escalations", x.incidentOf(0, 11), 0);
        check.due("resolve(0) in the same minute", x.resolve(0), 0);
        check.due("resolved by the owner", x.personOf(0, 3), 2);
        x.quiet(0, 0, 23);
        x.alert(3, 0);
        check.due("resolve(0) without owner", x.resolve(0), 0);
        check.due("by nobody", x.personOf(0, 3), 2);
        check.due("count(9)", x.count(9), 3);
    }

    private static void passArguments() {
        check.about("promise 14");
        PageRotas x = new PageRotas();
        check.due("pass(0)", x.pass(0), INVALID);
        check.due("pass(-1)", x.pass(-1), INVALID);
        check.due("pass(601)", x.pass(601), INVALID);
        check.due("pass(1)", x.pass(1), 0);
        check.due("count(2)", x.count(2), 1);
        for (int i = 0; i < 49; i++) {
            x.pass(600);
        }
        check.due("count(2)", x.count(2), 29401);
        check.due("pass(600) too far", x.pass(600), LIMIT);
        check.due("count(2)", x.count(2), 29401);
        check.due("pass(601) too far", x.pass(601), INVALID);
        check.due("pass(599)", x.pass(599), 0);
        check.due("count(2)", x.count(2), 30000);
        check.due("pass(1) too far", x.pass(1), LIMIT);
        check.due("pass(0) too far", x.pass(0), INVALID);
    }

    private static void escalation() {
        check.about("promise 14, escalation");
        PageRotas x = house(3, 24);
        x.alert(1, 1);
        check.due("pass(9)", x.pass(9), 0);
        check.due("level", x.incidentOf(0, 2), 0);
        check.due("pass(1)", x.pass(1), 1);
        check.due("level", x.incidentOf(0, 2), 1);
        check.due("owner", x.incidentOf(0, 3), 1);
        check.due("page", x.incidentOf(0, 9), 10);
        check.due("pass(20)", x.pass(20), 2);
        check.due("level goes on", x.incidentOf(0, 2), 3);
        check.due("the rota goes round", x.incidentOf(0, 3), 0);
        check.due("incidentOf(0, 11)", x.incidentOf(0, 11), 3);
        check.due("count(11)", x.count(11), 3);
        check.due("count(8)", x.count(8), 4);
        x.pass(5);
        x.set(0, 1);
        check.due("a smaller setting at once", x.pass(2), 2);
        x.acknowledge(0);
        check.due("not when acknowledged", x.pass(100), 0);
    }

    private static void escalationToQuietPeople() {
        check.about("promise 14, escalation to quiet people");
        PageRotas x = house(2, 24);
        x.quiet(1, 0, 1);
        x.alert(1, 0);
        check.due("pass(10)", x.pass(10), 0);
        check.due("owner", x.incidentOf(0, 3), NOT_FOUND);
        check.due("level", x.incidentOf(0, 2), 1);
        check.due("escalations", x.incidentOf(0, 11), 1);
        check.due("latest page", x.incidentOf(0, 9), 0);
        check.due("unowned", x.incidentOf(0, 8), 0);
        check.due("pass(49)", x.pass(49), 0);
        check.due("level stays", x.incidentOf(0, 2), 1);
        check.due("unowned", x.incidentOf(0, 8), 49);
        check.due("pass(1)", x.pass(1), 1);
        check.due("owner after the quiet hour", x.incidentOf(0, 3), 1);
        check.due("unowned", x.incidentOf(0, 8), 50);
        check.due("hand-offs", x.incidentOf(0, 10), 0);
    }

    private static void escalationAndOverride() {
        check.about("promise 14, overrides");
        PageRotas x = house(2, 24);
        x.person();
        x.override(0, 2, 1);
        x.alert(1, 1);
        check.due("the override", x.incidentOf(0, 3), 2);
        x.pass(10);
        check.due("level 1", x.incidentOf(0, 3), 1);
        x.pass(10);
        check.due("level 2", x.incidentOf(0, 3), 0);
        x.pass(100);
        check.due("level 12", x.incidentOf(0, 3), 0);
        check.due("level 12", x.incidentOf(0, 2), 12);
    }

    private static void handOff() {
        check.about("promise 14, hand-offs");
        PageRotas x = new PageRotas();
        x.person();
        x.person();
        x.person();
        x.region(0, 8, 2);
        x.region(6, 12, 1);
        x.join(0, 0);
        x.join(0, 1);
        x.join(1, 2);
        x.pass(360);
        x.alert(1, 1);
        check.due("the lower region", x.incidentOf(0, 3), 1);
        x.pass(10);
        check.due("escalated", x.incidentOf(0, 3), 0);
        x.acknowledge(0);
        check.due("no pages", x.pass(109), 0);
        check.due("a hand-off", x.pass(1), 1);
        check.due("owner", x.incidentOf(0, 3), 2);
        check.due("level", x.incidentOf(0, 2), 0);
        check.due("not acknowledged", x.incidentOf(0, 4), 0);
        check.due("page", x.incidentOf(0, 9), 480);
        check.due("incidentOf(0, 10)", x.incidentOf(0, 10), 1);
        check.due("count(10)", x.count(10), 1);
        check.due("incidentOf(0, 11)", x.incidentOf(0, 11), 1);
        check.due("a hand-off, no escalation", x.personOf(2, 0), 1);
    }

    private static void handOffToNobody() {
        check.about("promise 14, hand-offs to nobody");
        PageRotas x = new PageRotas();
        x.person();
        x.region(0, 1, 1);
        x.join(0, 0);
        x.alert(1, 1);
        x.pass(50);
        check.due("level", x.incidentOf(0, 2), 5);
        x.acknowledge(0);
        check.due("pass(10)", x.pass(10), 0);
        check.due("owner", x.incidentOf(0, 3), NOT_FOUND);
        check.due("level", x.incidentOf(0, 2), 0);
        check.due("acknowledged", x.incidentOf(0, 4), 0);
        check.due("hand-offs", x.incidentOf(0, 10), 1);
        check.due("unowned", x.incidentOf(0, 8), 0);
        x.pass(100);
        check.due("hand-offs", x.count(10), 1);
        check.due("unowned", x.incidentOf(0, 8), 100);
        check.due("latest page", x.incidentOf(0, 9), 50);
        x.pass(600);
        x.pass(600);
        check.due("pages until the next day", x.count(8), 6);
        x.pass(80);
        check.due("paged for the next day", x.incidentOf(0, 9), 1440);
        check.due("unowned", x.incidentOf(0, 8), 1380);
    }

    private static void handOffByARota() {
        check.about("promise 14, hand-offs when a rota is left");
        PageRotas x = new PageRotas();
        x.person();
        x.person();
        x.region(0, 12, 1);
        x.region(0, 12, 1);
        x.join(0, 0);
        x.join(1, 1);
        x.alert(1, 1);
        x.leave(0, 0);
        check.due("owner until the minute is over", x.incidentOf(0, 3), 0);
        check.due("pass(1)", x.pass(1), 1);
        check.due("owner", x.incidentOf(0, 3), 1);
        x.join(0, 0);
        check.due("pass(1)", x.pass(1), 1);
        check.due("back to the lower region", x.incidentOf(0, 3), 0);
        check.due("hand-offs", x.incidentOf(0, 10), 2);
    }

    private static void minutesUnowned() {
        check.about("promise 14, the time unowned");
        PageRotas x = new PageRotas();
        x.alert(1, 1);
        x.pass(5);
        x.alert(2, 1);
        x.pass(7);
        check.due("incidentOf(0, 8)", x.incidentOf(0, 8), 12);
        check.due("incidentOf(1, 8)", x.incidentOf(1, 8), 7);
        check.due("count(12)", x.count(12), 19);
        check.due("count(4)", x.count(4), 2);
        x.resolve(0);
        check.due("count(12) of resolved ones too", x.count(12), 19);
        x.person();
        x.region(0, 5, 1);
        x.join(0, 0);
        x.pass(1);
        check.due("the minute of the page counts", x.incidentOf(1, 8), 8);
        check.due("owner", x.incidentOf(1, 3), 0);
        x.pass(1);
        check.due("the next one does not", x.incidentOf(1, 8), 8);
    }

    private static void numbersAreFresh() {
        check.about("promise 11, a number used again");
        PageRotas x = new PageRotas();
        x.person();
        x.region(1, 2, 1);
        x.join(0, 0);
        x.alert(5, 2);
        x.alert(5, 2);
        x.pass(75);
        x.acknowledge(0);
        x.pass(100);
        x.resolve(0);
        check.due("alert(6, 0)", x.alert(6, 0), 0);
        int[] due = {6, 0, 0, NOT_FOUND, 0, 1, 175, 175, 0, NOT_FOUND, 0, 0};
        for (int what = 0; what < due.length; what++) {
            check.due("incidentOf(0, " + what + ")", x.incidentOf(0, what), due[what]);
        }
    }

    private static void set() {
        check.about("promise 15");
        PageRotas x = new PageRotas();
        check.due("set(-1, 5)", x.set(-1, 5), INVALID);
        check.due("set(2, 5)", x.set(2, 5), INVALID);
        check.due("set(0, 0)", x.set(0, 0), INVALID);
        check.due("set(0, 121)", x.set(0, 121), INVALID);
        check.due("set(1, -1)", x.set(1, -1), INVALID);
        check.due("set(1, 601)", x.set(1, 601), INVALID);
        check.due("count(14)", x.count(14), 0);
        check.due("set(0, 1)", x.set(0, 1), 10);
        check.due("set(0, 120)", x.set(0, 120), 1);
        check.due("set(1, 0)", x.set(1, 0), 30);
        check.due("set(1, 600)", x.set(1, 600), 0);
        check.due("set(1, 600) again", x.set(1, 600), 600);
        check.due("count(20)", x.count(20), 120);
        check.due("count(21)", x.count(21), 600);
    }

    private static void incidentOf() {
        check.about("promise 16");
        PageRotas x = house(2, 24);
        x.pass(3);
        x.alert(9, 0);
        x.pass(4);
        x.alert(9, 2);
        x.pass(7);
        x.acknowledge(0);
        int[] due = {9, 2, 1, 1, 1, 2, 3, 7, 0, 13, 0, 1};
        for (int what = 0; what < due.length; what++) {
            check.due("incidentOf(0, " + what + ")", x.incidentOf(0, what), due[what]);
        }
        check.due("incidentOf(0, -1)", x.incidentOf(0, -1), INVALID);
        check.due("incidentOf(0, 12)", x.incidentOf(0, 12), INVALID);
        check.due("incidentOf(-1, 0)", x.incidentOf(-1, 0), INVALID);
        check.due("incidentOf(1, 0)", x.incidentOf(1, 0), INVALID);
        check.due("incidentOf(8, 0)", x.incidentOf(8, 0), INVALID);
        x.quiet(0, 0, 23);
        x.alert(8, 0);
        x.quiet(1, 0, 23);
        x.alert(8, 0);
        check.due("incidentOf(1, 3) without owner", x.incidentOf(1, 3), NOT_FOUND);
        check.due("incidentOf(1, 9) without page", x.incidentOf(1, 9), NOT_FOUND);
        check.due("incidentOf(1, 12)", x.incidentOf(1, 12), INVALID);
    }

    private static void count() {
        check.about("promise 17");
        PageRotas x = house(2, 24);
        x.override(0, 1, 1);
        x.alert(1, 1);
        x.alert(2, 1);
        x.alert(2, 1);
        x.acknowledge(0);
        x.pass(10);
        x.resolve(1);
        x.quiet(0, 0, 23);
        x.quiet(1, 0, 23);
        x.alert(3, 0);
        x.pass(5);
        x.type('k');
        x.set(0, 20);
        x.set(1, 40);
        int[] due = {2, 1, 15, 2, 1, 1, 4, 1, 3, 1, 0, 1, 5, 1, 4, 1};
        for (int what = 0; what < due.length; what++) {
            check.due("count(" + what + ")", x.count(what), due[what]);
        }
        check.due("count(20)", x.count(20), 20);
        check.due("count(21)", x.count(21), 40);
        for (int what = 16; what < 20; what++) {
            check.due("count(" + what + ")", x.count(what), INVALID);
        }
        check.due("count(22)", x.count(22), INVALID);
        check.due("count(-1)", x.count(-1), INVALID);
        x.undo();
        check.due("count(14)", x.count(14), 3);
    }
}
