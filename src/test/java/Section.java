import java.util.ArrayList;
import java.util.List;
import java.util.Map;
import java.util.WeakHashMap;
import java.util.regex.Matcher;
import java.util.regex.Pattern;

/** Tests of sections of the document: they name a sentence, then ask for the answers that it makes due. */
abstract class Section {
    static final int INVALID = PageRotas.INVALID_ARGUMENT;
    static final int NOT_POSSIBLE = PageRotas.NOT_POSSIBLE;
    static final int LIMIT = PageRotas.LIMIT_REACHED;
    static final int NOT_FOUND = PageRotas.NOT_FOUND;

    private static final int MOST_CALLS = 512;
    private static final Pattern CALL =
        Pattern.compile("(\\w+)\\((?:(-?\\d+)(?:, (-?\\d+)(?:, (-?\\d+))?)?)?\\)");

    private final Sentences sentences;
    private final Map<PageRotas, Integer> calls = new WeakHashMap<>();
    private String section = "";

    Section(Sentences sentences) {
        this.sentences = sentences;
    }

    abstract void ask();

    final void section(String title) {
        section = title;
    }

    /** Names the sentence that the next answers are about, as the document has it. */
    final void sentence(String words) {
        sentences.name(section, words);
    }

    final void leaveOut(String words) {
        sentences.leaveOut(section, words);
    }

    /** Does a call that is written as in Java, such as "join(0, 1)". */
    final int call(PageRotas x, String call) {
        Matcher m = CALL.matcher(call);
        if (!m.matches()) {
            throw new IllegalArgumentException(call);
        }
        if (calls.merge(x, 1, Integer::sum) > MOST_CALLS) {
            throw new IllegalStateException("more calls than the document promises answers for");
        }
        return Face.call(x, m.group(1), number(m, 2), number(m, 3), number(m, 4));
    }

    private static int number(Matcher m, int group) {
        return m.group(group) == null ? 0 : Integer.parseInt(m.group(group));
    }

    /** Does calls that make a state; an error among them is a slip of the test itself. */
    final void go(PageRotas x, String... calls) {
        for (String call : calls) {
            int got = call(x, call);
            if (got < 0) {
                due(call + " to make a state, as no error", got, 0);
            }
        }
    }

    final void due(PageRotas x, String call, int want) {
        due(call, call(x, call), want);
    }

    final void due(String call, int got, int want) {
        sentences.due(call, got, want);
    }

    /** The same answer is due for each value in the place of the %. */
    final void dueForEach(PageRotas x, String call, int[] values, int want) {
        for (int value : values) {
            due(x, call.replace("%", Integer.toString(value)), want);
        }
    }

    /** Numbers that are outside a range: next to it, far away, and such as fall into it when bits are cut off. */
    static int[] outside(int low, int high) {
        int[] far = {low - 1, high + 1, low + 256, low + 65536, high - 65536, Integer.MIN_VALUE,
            Integer.MIN_VALUE + Math.max(low, 0), Integer.MAX_VALUE};
        List<Integer> outside = new ArrayList<>();
        for (int number : far) {
            if (number < low || number > high) {
                outside.add(number);
            }
        }
        return outside.stream().mapToInt(number -> number).toArray();
    }

    static int[] range(int low, int high) {
        return java.util.stream.IntStream.rangeClosed(low, high).toArray();
    }

    final PageRotas people(int people) {
        PageRotas x = new PageRotas();
        for (int i = 0; i < people; i++) {
            go(x, "person()");
        }
        return x;
    }

    /** Lets people, from 0 on, join a rota in their order. */
    final void joinAll(PageRotas x, int region, int people) {
        for (int i = 0; i < people; i++) {
            go(x, "join(" + region + ", " + i + ")");
        }
    }

    /** One region, from 0 up to 23, with all people in its rota. */
    final PageRotas watch(int people, int shift) {
        PageRotas x = people(people);
        go(x, "region(0, 23, " + shift + ")");
        joinAll(x, 0, people);
        return x;
    }

    /** Two regions that cover the day together, each with all people in its rota, in shifts of 24 hours. */
    final PageRotas dayAndNight(int people) {
        PageRotas x = people(people);
        go(x, "region(0, 12, 24)", "region(12, 0, 24)");
        joinAll(x, 0, people);
        joinAll(x, 1, people);
        return x;
    }

    final void passTo(PageRotas x, int time) {
        int rest = time - call(x, "count(2)");
        for (; rest > 600; rest -= 600) {
            go(x, "pass(600)");
        }
        if (rest > 0) {
            go(x, "pass(" + rest + ")");
        }
    }

    final void write(PageRotas x, String text) {
        for (int i = 0; i < text.length(); i++) {
            go(x, "type(" + (int) text.charAt(i) + ")");
        }
    }

    /** Asks for the fault of a text that an object without one gets. */
    final void dueFault(PageRotas x, String text, int at, int reason) {
        write(x, text);
        due("fault(0) of " + text, call(x, "fault(0)"), at);
        due("fault(1) of " + text, call(x, "fault(1)"), reason);
    }

    final void dueNoFault(PageRotas x, String text) {
        dueFault(x, text, NOT_FOUND, NOT_FOUND);
    }

    /** All that the calls tell of a state, but for the history and the text; it asks some 230 times. */
    final String told(PageRotas x) {
        StringBuilder told = new StringBuilder();
        for (int what = 0; what <= 21; what++) {
            told.append(what == 14 || what == 15 ? "" : call(x, "count(" + what + ")") + " ");
        }
        for (int i = 0; i < 8; i++) {
            tell(x, told, "incidentOf(" + i + ", %)", 0, 11);
            tell(x, told, "personOf(" + i + ", %)", 0, 6);
        }
        for (int region = 0; region < 3; region++) {
            tell(x, told, "rotaAt(" + region + ", %)", 0, 4);
        }
        tell(x, told, "onCall(0, %)", -1, 5);
        for (int hours = 1; hours <= 24; hours++) {
            told.append(call(x, "onCall(" + 60 * hours + ", 0)")).append(' ');
        }
        told.append(call(x, "uncovered()")).append(' ');
        told.append(call(x, "acknowledgeBits()")).append(' ');
        told.append(call(x, "unownedBits()"));
        return told.toString();
    }

    private void tell(PageRotas x, StringBuilder told, String call, int low, int high) {
        for (int value = low; value <= high; value++) {
            told.append(call(x, call.replace("%", Integer.toString(value)))).append(' ');
        }
    }
}
