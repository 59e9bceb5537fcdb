import java.lang.reflect.Constructor;
import java.lang.reflect.Field;
import java.lang.reflect.Method;
import java.lang.reflect.Modifier;

/** The sections "What it is" and "The public face". */
final class FaceSection extends Section {
    FaceSection(Sentences sentences) {
        super(sentences);
    }

    @Override
    void ask() {
        callsOfAnObject();
        face();
    }

    private void callsOfAnObject() {
        section("What it is");
        leaveOut("Pages at night and day: regions whose rotas follow the sun, people with quiet hours and exceptions, "
            + "overrides, alerts that are folded into incidents by their cause, owners, acknowledging, escalation "
            + "when nobody answers, hand-offs between regions, incidents that are held and the time unowned, who "
            + "will be on call, hours that nobody covers, shares and means as floats, and commands as texts with "
            + "places and reasons of faults.");
        sentence("An object is used for at most 512 calls after it has been made;");
        PageRotas x = watch(1, 1);
        for (int i = 1; i <= 508; i++) {
            due(x, "alert(3, 1)", 0);
        }
        due(x, "count(6)", 508);
        PageRotas y = new PageRotas();
        for (int i = 0; i < 256; i++) {
            due(y, "person()", 0);
            due(y, "undo()", 0);
        }
        PageRotas z = new PageRotas();
        go(z, "set(1, 0)");
        for (int i = 1; i < 512; i++) {
            due(z, "set(1, " + i + ")", i - 1);
        }
        freeAfterTheLastCall(z);
    }

    /** What is answered is free then; LANGUAGE.md still asks that no call throws. */
    private void freeAfterTheLastCall(PageRotas x) {
        sentence("what later calls answer is free.");
        int thrown = 0;
        for (String name : Face.NAMES) {
            try {
                Face.call(x, name, 0, 1, 2);
            } catch (RuntimeException exception) {
                thrown++;
            }
        }
        due("calls that throw after the last one", thrown, 0);
    }

    private void face() {
        section("The public face");
        sentence("public final class PageRotas {");
        int modifiers = PageRotas.class.getModifiers();
        due("public", Modifier.isPublic(modifiers) ? 1 : 0, 1);
        due("final", Modifier.isFinal(modifiers) ? 1 : 0, 1);
        due("without a package", PageRotas.class.getPackageName().length(), 0);
        String[] constants = {"INVALID_ARGUMENT = -1", "NOT_POSSIBLE = -2", "LIMIT_REACHED = -3", "NOT_FOUND = -4"};
        for (String constant : constants) {
            sentence("public static final int " + constant + ";");
            due(constant, isThere(constant) ? 1 : 0, 1);
        }
        sentence("public PageRotas();");
        Constructor<?>[] constructors = PageRotas.class.getDeclaredConstructors();
        due("constructors", constructors.length, 1);
        due("its arguments", constructors[0].getParameterCount(), 0);
        due("it is public", Modifier.isPublic(constructors[0].getModifiers()) ? 1 : 0, 1);
        methods();
        nothingElse(constants.length);
    }

    private static boolean isThere(String constant) {
        String[] parts = constant.split(" = ");
        try {
            Field field = PageRotas.class.getField(parts[0]);
            int modifiers = field.getModifiers();
            return field.getType() == int.class && Modifier.isStatic(modifiers) && Modifier.isFinal(modifiers)
                && field.getInt(null) == Integer.parseInt(parts[1]);
        } catch (ReflectiveOperationException missing) {
            return false;
        }
    }

    private void methods() {
        String[] methods = {
            "person()", "region(int from, int to, int shift)", "join(int region, int person)",
            "leave(int region, int person)", "quiet(int person, int from, int to)",
            "except(int person, int cause)", "override(int region, int person, int hours)",
            "rotaAt(int region, int index)", "personOf(int person, int what)", "alert(int cause, int severity)",
            "acknowledge(int incident)", "resolve(int incident)", "pass(int minutes)", "set(int what, int value)",
            "incidentOf(int incident, int what)", "count(int what)", "onCall(int minutes, int level)",
            "uncovered()", "later(int incident, int minutes, int what)", "acknowledgeBits()", "unownedBits()",
            "undo()", "type(int character)", "clearText()", "fault(int what)", "play()",
        };
        for (String method : methods) {
            sentence("public int " + method + ";");
            due(method, isMethod(method) ? 1 : 0, 1);
        }
        due("methods of the test's own list", Face.NAMES.length, methods.length);
    }

    private static boolean isMethod(String told) {
        String name = told.substring(0, told.indexOf('('));
        int arguments = told.endsWith("()") ? 0 : told.split(",").length;
        Class<?>[] types = new Class<?>[arguments];
        java.util.Arrays.fill(types, int.class);
        try {
            Method method = PageRotas.class.getMethod(name, types);
            return method.getReturnType() == int.class && !Modifier.isStatic(method.getModifiers());
        } catch (NoSuchMethodException missing) {
            return false;
        }
    }

    private void nothingElse(int constants) {
        int fields = 0;
        for (Field field : PageRotas.class.getDeclaredFields()) {
            fields += Modifier.isPrivate(field.getModifiers()) ? 0 : 1;
        }
        due("fields that are not private", fields, constants);
        int methods = 0;
        for (Method method : PageRotas.class.getDeclaredMethods()) {
            methods += Modifier.isPrivate(method.getModifiers()) ? 0 : 1;
        }
        due("methods that are not private", methods, Face.NAMES.length);
    }
}
