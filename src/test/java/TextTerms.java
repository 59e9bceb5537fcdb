import java.util.regex.Matcher;
import java.util.regex.Pattern;

/** The section "Texts". */
final class TextTerms extends Section {
    private static final Pattern COMMANDS =
        Pattern.compile("(?:a\\d{1,3},\\d{1,3};|[krt]\\d{1,3};|o\\d{1,3},\\d{1,3},\\d{1,3};)*+");

    TextTerms(Sentences sentences) {
        super(sentences);
    }

    @Override
    void ask() {
        section("Texts");
        length();
        commands();
        forms();
        numbers();
        positions();
        reasonOfForm();
        reasonOfArguments();
        reasonOfState();
    }

    /** Two people, one of them in the rota of a region, which is on call. */
    private PageRotas house() {
        PageRotas x = people(2);
        go(x, "region(0, 23, 24)", "join(0, 0)");
        return x;
    }

    private void length() {
        sentence("There is a text of at most 80 characters, initially empty:");
        PageRotas x = house();
        due(x, "count(15)", 0);
        due(x, "clearText()", 0);
        due(x, "fault(0)", NOT_FOUND);
        String full = "t1;t1;t1;t1;t1;t1;t1;t1;t1;t1;t1;t1;t1;t1;t1;t1;t1;t1;t1;t1;t1;t1;t1;t1;t001;t1;";
        dueNoFault(x, full);
        due(x, "count(15)", 80);
        due(x, "type(32)", LIMIT);
        due(x, "count(15)", 80);
        due("the 80 stay as they are", call(x, "play()"), 26);
        due(x, "count(2)", 26);
    }

    private void commands() {
        sentence("commands, each followed by \";\":");
        dueNoFault(house(), "a1,1;");
        dueNoFault(house(), "a1,1;k0;r0;o0,1,1;t1;");
        dueFault(house(), "a1,1", 0, 1);
        dueFault(house(), "a1,1;k0;r0;o0,1,1;t1", 18, 1);
        dueFault(house(), ";", 0, 1);
        dueFault(house(), "t1;;", 3, 1);
        sentence("\"a\" a cause \",\" a severity (an alert),");
        PageRotas x = dueDone("a19,2;", "alert(19, 2)", 0);
        due(x, "incidentOf(0, 0)", 19);
        due(x, "incidentOf(0, 1)", 2);
        sentence("\"k\" an incident (it is acknowledged),");
        x = dueDone("a1,1;t5;k0;", "acknowledge(0)", NOT_POSSIBLE);
        due(x, "incidentOf(0, 4)", 1);
        due(x, "acknowledgeBits()", Float.floatToIntBits(5f));
        sentence("\"r\" an incident (it is resolved),");
        x = dueDone("a1,1;a2,1;r1;", "resolve(1)", INVALID);
        due(x, "count(9)", 1);
        due(x, "incidentOf(0, 0)", 1);
        sentence("\"o\" a region \",\" a person \",\" hours (an override),");
        x = dueDone("o0,1,2;", "override(0, 1, 1)", 2);
        due(x, "onCall(119, 0)", 1);
        due(x, "onCall(120, 0)", 0);
        sentence("or \"t\" minutes;");
        x = dueDone("t600;", "count(2)", 600);
        due(x, "personOf(0, 5)", 0);
    }

    private PageRotas dueDone(String text, String call, int want) {
        PageRotas x = house();
        dueNoFault(x, text);
        go(x, "play()");
        due(call + " after " + text, call(x, call), want);
        return x;
    }

    private static int commandsEnd(String text) {
        Matcher m = COMMANDS.matcher(text);
        return m.lookingAt() ? m.end() : 0;
    }

    /** One sign at each place of a command is made each other one, left out, or put in twice. */
    private void forms() {
        sentence("its reason is 1 if it is not of this form, its \";\" included,");
        for (String good : new String[] {"a1,1;", "a01,002;", "t1;", "t600;", "o0,1,1;", "o00,001,09;"}) {
            for (int at = 0; at < good.length(); at++) {
                for (char sign = 32; sign <= 126; sign++) {
                    dueForm(good.substring(0, at) + sign + good.substring(at + 1));
                }
                dueForm(good.substring(0, at) + good.substring(at + 1));
                dueForm(good.substring(0, at) + good.charAt(at) + good.substring(at));
            }
        }
    }

    /** Only the form is asked for here: whether there is a fault of form, and where. */
    private void dueForm(String text) {
        PageRotas x = house();
        write(x, text);
        int end = commandsEnd(text);
        int reason = call(x, "fault(1)");
        if (end < text.length() && (reason == 1 || reason == NOT_FOUND)) {
            due("fault(0) of " + text, call(x, "fault(0)"), end);
        } else {
            due("fault(1) of " + text + " is that of a form", reason == 1 ? 1 : 0, 0);
        }
    }

    private void numbers() {
        sentence("numbers of one to three digits, 0 ahead allowed.");
        for (String text : new String[] {"t1;", "t01;", "t001;", "t10;", "t010;", "t600;", "a0,0;", "a00,00;",
            "a000,000;", "a019,002;", "o0,0,1;", "o00,01,99;", "o000,001,099;"}) {
            dueNoFault(house(), text);
        }
        for (String text : new String[] {"a1,1;k0;", "a1,1;k00;", "a1,1;k000;", "a1,1;r0;", "a1,1;r00;",
            "a1,1;r000;"}) {
            dueNoFault(house(), text);
        }
        for (String text : new String[] {"t;", "t0001;", "t0600;", "t1000;", "a,1;", "a1,;", "a0001,1;", "a1,0001;",
            "k;", "k0000;", "r;", "r0000;", "o,1,1;", "o0,,1;", "o0,1,;", "o0000,1,1;", "o0,0001,1;", "o0,1,0001;",
            "t-1;", "t+1;", "t 1;", "t1 ;", "t1.0;", "t1x;", "tx1;"}) {
            dueFault(house(), text, 0, 1);
        }
        PageRotas x = house();
        write(x, "t120;t012;t003;");
        go(x, "play()");
        due("of each digit its worth", call(x, "count(2)"), 135);
    }

    private void positions() {
        sentence("The fault of the text is the position, from 0, of the first character of the first command that is "
            + "not possible, when those ahead of it are done;");
        dueFault(house(), "x", 0, 1);
        dueFault(house(), "t1;x", 3, 1);
        dueFault(house(), "k0;", 0, 2);
        dueNoFault(house(), "a1,1;k0;");
        dueFault(house(), "a1,1;k0;k0;", 8, 3);
        dueFault(house(), "a1,1;r0;k0;", 8, 2);
        dueNoFault(house(), "a1,1;r0;a1,1;k0;");
        dueFault(house(), "k0;x", 0, 2);
        dueFault(house(), "x;k0;", 0, 1);
        dueFault(house(), "t0;a1,1;k0;k0;", 0, 2);
        dueFault(house(), "a1,1;k0;k0;t0;x", 8, 3);
        dueFault(house(), "t1;t1;t1;t1;t1;t1;t1;t1;t1;t1;t1;t1;t1;t1;t1;t1;t1;t1;t1;t1;t1;t1;t1;t1;t1;t1;t1", 78, 1);
        dueFault(house(), "t1;t1;t1;t1;t1;t1;t1;t1;t1;t1;t1;t1;t1;t1;t1;t1;t1;t1;t1;t1;t1;t1;t1;t1;t1;t10;t", 79, 1);
        dueNoFault(house(), "o0,1,1;o0,1,1;o0,1,1;o0,1,1;o0,1,1;o0,1,1;t60;o0,1,1;");
        dueFault(house(), "o0,1,1;o0,1,1;o0,1,1;o0,1,1;o0,1,1;o0,1,1;t59;o0,1,1;", 46, 3);
        PageRotas x = house();
        go(x, "alert(1, 1)");
        dueNoFault(x, "k0;");
        go(x, "acknowledge(0)");
        due("in the present state", call(x, "fault(1)"), 3);
        go(x, "resolve(0)");
        due("in the present state", call(x, "fault(1)"), 2);
    }

    private void reasonOfForm() {
        sentence("its reason is 1 if it is not of this form, its \";\" included,");
        for (String text : new String[] {"a", "a1", "a1,", "a1,1", "k", "k0", "r", "r0", "o", "o0", "o0,", "o0,1",
            "o0,1,", "o0,1,1", "t", "t1", "t1,", "k0,0;", "a1;", "a1,1,1;", "o0,1;", "o0,1,1,1;", "t1,1;", "r0 ;",
            "A1,1;", "K0;", "R0;", "O0,1,1;", "T1;", "b1,1;", "p0;", "1;", ",1;", " t1;", "~", "a1;1;", "o0;1,1;"}) {
            dueFault(house(), text, 0, 1);
            dueFault(house(), "t010;" + text, 5, 1);
        }
        dueFault(house(), "t1; t1;", 3, 1);
        dueFault(house(), "t1; ", 3, 1);
        dueFault(house(), "a99,9", 0, 1);
    }

    private void reasonOfArguments() {
        sentence("2 if the call would return INVALID_ARGUMENT for it,");
        for (String text : new String[] {"a20,1;", "a999,1;", "a1,3;", "a1,999;", "k0;", "k8;", "k999;", "r0;", "r8;",
            "r999;", "o1,1,1;", "o3,1,1;", "o999,1,1;", "o0,2,1;", "o0,8,1;", "o0,999,1;", "o0,1,0;", "o0,1,100;",
            "o0,1,999;", "t0;", "t000;", "t601;", "t999;"}) {
            dueFault(house(), text, 0, 2);
            dueFault(house(), "t10;" + text, 4, 2);
        }
        dueFault(house(), "a1,1;k1;", 5, 2);
        dueFault(house(), "a1,1;r1;", 5, 2);
        dueFault(house(), "o0,1,1;o0,1,1;o0,1,1;o0,1,1;o0,1,1;o0,1,1;o0,1,0;", 42, 2);
        dueFault(house(), "a0,1;a1,1;a2,1;a3,1;a4,1;a5,1;a6,1;a7,1;a20,1;", 40, 2);
        PageRotas x = house();
        passTo(x, 30000);
        dueFault(x, "t601;", 0, 2);
        PageRotas y = new PageRotas();
        dueFault(y, "o0,0,1;", 0, 2);
    }

    private void reasonOfState() {
        sentence("3 if it would return another error.");
        dueFault(house(), "a1,1;k0;k0;", 8, 3);
        dueFault(house(), "a0,1;a1,1;a2,1;a3,1;a4,1;a5,1;a6,1;a7,1;a8,1;", 40, 3);
        dueNoFault(house(), "a0,1;a1,1;a2,1;a3,1;a4,1;a5,1;a6,1;a7,1;a0,2;");
        dueFault(house(), "o0,1,1;o0,1,1;o0,1,1;o0,1,1;o0,1,1;o0,1,1;o0,1,1;", 42, 3);
        PageRotas x = house();
        passTo(x, 29999);
        dueFault(x, "t2;", 0, 3);
        PageRotas y = house();
        passTo(y, 29999);
        dueFault(y, "t1;t1;", 3, 3);
        PageRotas z = new PageRotas();
        dueFault(z, "a1,1;k0;", 5, 3);
    }
}
