/** Calls of the face by their names, for tests that choose their calls. */
final class Face {
    static final String[] NAMES = {
        "person", "region", "join", "leave", "quiet", "except", "override", "rotaAt", "personOf", "alert",
        "acknowledge", "resolve", "pass", "set", "incidentOf", "count", "onCall", "uncovered", "later",
        "acknowledgeBits", "unownedBits", "undo", "type", "clearText", "fault", "play",
    };

    private Face() { }

    static int call(PageRotas x, String name, int a, int b, int c) {
        switch (name) {
            case "person":
                return x.person();
            case "region":
                return x.region(a, b, c);
            case "join":
                return x.join(a, b);
            case "leave":
                return x.leave(a, b);
            case "quiet":
                return x.quiet(a, b, c);
            case "except":
                return x.except(a, b);
            case "override":
                return x.override(a, b, c);
            case "rotaAt":
                return x.rotaAt(a, b);
            case "personOf":
                return x.personOf(a, b);
            case "alert":
                return x.alert(a, b);
            case "acknowledge":
                return x.acknowledge(a);
            case "resolve":
                return x.resolve(a);
            case "pass":
                return x.pass(a);
            case "set":
                return x.set(a, b);
            case "incidentOf":
                return x.incidentOf(a, b);
            case "count":
                return x.count(a);
            case "onCall":
                return x.onCall(a, b);
            case "uncovered":
                return x.uncovered();
            case "later":
                return x.later(a, b, c);
            case "acknowledgeBits":
                return x.acknowledgeBits();
            case "unownedBits":
                return x.unownedBits();
            case "undo":
                return x.undo();
            case "type":
                return x.type(a);
            case "clearText":
                return x.clearText();
            case "fault":
                return x.fault(a);
            case "play":
                return x.play();
            default:
                throw new IllegalArgumentException(name);
        }
    }
}
