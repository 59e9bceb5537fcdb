/** The sections "Promise 24" to "Promise 27": typing, clearing, the fault of the text, playing it. */
final class TextPromises extends Section {
    TextPromises(Sentences sentences) {
        super(sentences);
    }

    @Override
    void ask() {
        type();
        clearText();
        fault();
        faultErrors();
        play();
        playOfEach();
        playIsOneChange();
        playErrors();
    }

    private PageRotas house() {
        PageRotas x = people(2);
        go(x, "region(0, 23, 24)", "join(0, 0)");
        return x;
    }

    private void type() {
        section("Promise 24");
        sentence("`int type(int character)`: Appends a character to the text.");
        PageRotas x = house();
        dueNoFault(x, "t12;");
        dueNoFault(x, "t5;");
        go(x, "play()");
        due("in their order", call(x, "count(2)"), 17);
        sentence("- `character`: 32 to 126");
        due(new PageRotas(), "type(32)", 1);
        due(new PageRotas(), "type(126)", 1);
        PageRotas y = new PageRotas();
        dueForEach(y, "type(%)", outside(32, 126), INVALID);
        due(y, "type(" + ('t' + 65536) + ")", INVALID);
        due(y, "type(" + ('t' + 256) + ")", INVALID);
        due(y, "type(10)", INVALID);
        due(y, "type(0)", INVALID);
        due(y, "count(15)", 0);
        sentence("Returns the length of the text;");
        for (int character = 32; character <= 111; character++) {
            due(y, "type(" + character + ")", character - 31);
        }
        PageRotas z = new PageRotas();
        for (int character = 112; character <= 126; character++) {
            due(z, "type(" + character + ")", character - 111);
        }
        sentence("INVALID_ARGUMENT if character is out of range;");
        due("of a full text, too", call(y, "type(127)"), INVALID);
        due("of a full text, too", call(y, "type(31)"), INVALID);
        sentence("LIMIT_REACHED if it has 80 characters.");
        due(y, "count(15)", 80);
        due(y, "type(32)", LIMIT);
        due(y, "type(126)", LIMIT);
        due(y, "count(15)", 80);
        go(y, "clearText()");
        due(y, "type(126)", 1);
    }

    private void clearText() {
        section("Promise 25");
        sentence("`int clearText()`: Empties the text.");
        PageRotas x = house();
        dueFault(x, "t1;x", 3, 1);
        go(x, "clearText()");
        due(x, "count(15)", 0);
        due(x, "fault(0)", NOT_FOUND);
        due("no command is left", call(x, "play()"), 0);
        go(x, "type(116)", "type(49)");
        due("the old \";\" behind is gone", call(x, "fault(1)"), 1);
        sentence("Returns the length it had.");
        due(x, "clearText()", 2);
        due("of an empty one", call(x, "clearText()"), 0);
        for (int i = 0; i < 80; i++) {
            go(x, "type(59)");
        }
        due("of a full one", call(x, "clearText()"), 80);
        due(x, "clearText()", 0);
        due("it is no change", call(x, "undo()"), 3);
        due(x, "count(15)", 0);
    }

    private void fault() {
        section("Promise 26");
        sentence("`int fault(int what)`: Tells about the fault of the text.");
        PageRotas x = house();
        dueFault(x, "a1,1;t600;o0,1,9;k0;k0;", 20, 3);
        due("nothing is done by it", call(x, "count(2)"), 0);
        due("nothing is done by it", call(x, "count(6)"), 0);
        due("nothing is done by it", call(x, "count(13)"), 0);
        due("nothing is done by it", call(x, "count(14)"), 4);
        due("nothing is done by it", call(x, "personOf(0, 0)"), 0);
        due("asked again", call(x, "fault(0)"), 20);
        sentence("- `what`: 0: its position;");
        due(x, "fault(0)", 20);
        PageRotas first = house();
        write(first, "x");
        due("at the start", call(first, "fault(0)"), 0);
        sentence("1: its reason");
        due(x, "fault(1)", 3);
        due(first, "fault(1)", 1);
        PageRotas second = house();
        write(second, "k0;");
        due(second, "fault(1)", 2);
        sentence("Returns that;");
        due(second, "fault(0)", 0);
        PageRotas last = house();
        write(last, "t1;t1;t1;t1;t1;t1;t1;t1;t1;t1;t1;t1;t1;t1;t1;t1;t1;t1;t1;t1;t1;t1;t1;t1;t1;t10;;");
        due("of the last character of 80", call(last, "fault(0)"), 79);
        due("of the last character of 80", call(last, "fault(1)"), 1);
    }

    private void faultErrors() {
        sentence("INVALID_ARGUMENT if what is out of range;");
        PageRotas x = house();
        dueForEach(x, "fault(%)", outside(0, 1), INVALID);
        write(x, "x");
        dueForEach(x, "fault(%)", outside(0, 1), INVALID);
        sentence("NOT_FOUND if the text has no fault (also if it is empty).");
        PageRotas y = house();
        due("empty", call(y, "fault(0)"), NOT_FOUND);
        due("empty", call(y, "fault(1)"), NOT_FOUND);
        dueNoFault(y, "a1,1;k0;t1;r0;");
        go(y, "clearText()");
        dueFault(y, "k0;", 0, 2);
        go(y, "alert(1, 1)");
        due("in the state of now it is possible", call(y, "fault(0)"), NOT_FOUND);
        due("in the state of now it is possible", call(y, "fault(1)"), NOT_FOUND);
        go(y, "clearText()");
        due("empty again", call(y, "fault(0)"), NOT_FOUND);
    }

    private void play() {
        section("Promise 27");
        sentence("`int play()`: Does all commands of the text, which stays.");
        PageRotas x = house();
        write(x, "a12,2;t009;k0;");
        due(x, "play()", 3);
        due(x, "count(2)", 9);
        due(x, "incidentOf(0, 0)", 12);
        due(x, "incidentOf(0, 1)", 2);
        due(x, "incidentOf(0, 4)", 1);
        due(x, "acknowledgeBits()", Float.floatToIntBits(9f));
        due("the text stays", call(x, "count(15)"), 14);
        due("it is folded, then it is acknowledged already", call(x, "fault(0)"), 11);
        go(x, "clearText()");
        write(x, "t7;");
        due(x, "play()", 1);
        due("the text can be played again", call(x, "play()"), 1);
        due(x, "count(2)", 23);
    }

    private void playOfEach() {
        PageRotas x = twoRegions();
        write(x, "t50;a3,1;t5;a03,2;a4,0;r01;o1,1,02;t9;k0;t30;a5,2;");
        due(x, "play()", 11);
        PageRotas y = twoRegions();
        go(y, "pass(50)", "alert(3, 1)", "pass(5)", "alert(3, 2)", "alert(4, 0)", "resolve(1)", "override(1, 1, 2)");
        go(y, "pass(9)", "acknowledge(0)", "pass(30)", "alert(5, 2)");
        due("the state is that of the calls", told(x).equals(told(y)) ? 1 : 0, 1);
        go(x, "pass(100)");
        go(y, "pass(100)");
        due("what comes is that of the calls", told(x).equals(told(y)) ? 1 : 0, 1);
    }

    private PageRotas twoRegions() {
        PageRotas x = people(2);
        go(x, "region(0, 1, 24)", "region(1, 3, 24)", "join(0, 0)", "join(1, 0)", "join(1, 1)");
        return x;
    }

    private void playIsOneChange() {
        sentence("They are one change, also if there are none.");
        PageRotas x = house();
        go(x, "undo()", "undo()", "undo()");
        due(x, "count(14)", 1);
        write(x, "t1;t2;t3;a1,1;a2,2;");
        due(x, "play()", 5);
        due(x, "count(14)", 2);
        due(x, "undo()", 1);
        due(x, "count(2)", 0);
        due(x, "count(3)", 0);
        due("the text stays", call(x, "count(15)"), 19);
        go(x, "clearText()");
        due("of none", call(x, "play()"), 0);
        due("of none", call(x, "count(14)"), 2);
        due("of none", call(x, "undo()"), 1);
        due(x, "count(0)", 1);
        due(x, "undo()", 0);
        due(x, "count(0)", 0);
        PageRotas y = new PageRotas();
        for (int i = 0; i <= 5; i++) {
            due(y, "count(14)", Math.min(i, 4));
            due(y, "play()", 0);
        }
        PageRotas z = new PageRotas();
        go(z, "set(1, 1)", "set(1, 2)", "set(1, 3)", "play()", "play()", "undo()", "undo()", "undo()", "undo()");
        due("each of 5 changes, the oldest of which is dropped", call(z, "count(21)"), 1);
        due(z, "undo()", NOT_POSSIBLE);
    }

    private void playErrors() {
        sentence("Returns how many there are in it;");
        String text = "";
        for (int commands = 0; commands <= 26; commands++) {
            PageRotas x = house();
            write(x, text);
            due("play() of " + text, call(x, "play()"), commands);
            due(x, "count(2)", commands);
            text += "t1;";
        }
        PageRotas y = house();
        write(y, "o0,1,1;o0,1,99;");
        due(y, "play()", 2);
        sentence("NOT_POSSIBLE if it has a fault.");
        for (String fault : new String[] {"x", "t1", "k0;", "t0;", "t601;", "a1,1;k0;k0;", "t1; ", "t5;;"}) {
            PageRotas x = house();
            go(x, "set(1, 5)", "undo()");
            write(x, fault);
            due("play() of " + fault, call(x, "play()"), NOT_POSSIBLE);
            due("nothing of it is done", call(x, "count(2)"), 0);
            due("nothing of it is done", call(x, "count(6)"), 0);
            due("it is no change", call(x, "count(14)"), 3);
            due("the text stays", call(x, "count(15)"), fault.length());
        }
        PageRotas end = house();
        passTo(end, 29990);
        write(end, "t5;t5;");
        due("up to the last time", call(end, "play()"), 2);
        due(end, "count(2)", 30000);
        due("above it", call(end, "play()"), NOT_POSSIBLE);
    }
}
