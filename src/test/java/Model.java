import java.util.ArrayList;
import java.util.List;
import java.util.Map;
import java.util.TreeMap;
import java.util.regex.Matcher;
import java.util.regex.Pattern;

/**
 * A second, slow reading of the document, written apart from the class and with the Java library, so
 * that a slip in one of both shows as a difference. It keeps whole records instead of running sums.
 */
final class Model {
    private static final int INVALID = -1;
    private static final int NOT_POSSIBLE = -2;
    private static final int LIMIT = -3;
    private static final int NOT_FOUND = -4;

    private static final Pattern COMMAND = Pattern.compile(
        "(?:(a)(\\d{1,3}),(\\d{1,3})|([krt])(\\d{1,3})|(o)(\\d{1,3}),(\\d{1,3}),(\\d{1,3}));.*");

    private record Override(int region, int person, int from, int minutes) {
        boolean inForce(int time) {
            return time >= from && time < from + minutes;
        }
    }

    private record Page(int person, int region, int time) { }

    private static final class Incident {
        int cause;
        int severity;
        int level;
        Integer owner;
        boolean acknowledged;
        List<Integer> alerts = new ArrayList<>();
        List<Page> pages = new ArrayList<>();
        List<Integer> unownedTimes = new ArrayList<>();
        int handOffs;
        int escalations;
        Integer end;
        Integer resolver;

        Incident copy() {
            Incident c = new Incident();
            c.cause = cause;
            c.severity = severity;
            c.level = level;
            c.owner = owner;
            c.acknowledged = acknowledged;
            c.alerts = new ArrayList<>(alerts);
            c.pages = new ArrayList<>(pages);
            c.unownedTimes = new ArrayList<>(unownedTimes);
            c.handOffs = handOffs;
            c.escalations = escalations;
            c.end = end;
            c.resolver = resolver;
            return c;
        }
    }

    private static final class State {
        int time;
        int[] settings = {10, 30};
        List<int[]> people = new ArrayList<>();
        List<int[]> regions = new ArrayList<>();
        List<List<Integer>> rotas = new ArrayList<>();
        List<Override> overrides = new ArrayList<>();
        TreeMap<Integer, Incident> open = new TreeMap<>();
        List<Incident> ended = new ArrayList<>();
        List<Integer> acknowledgements = new ArrayList<>();

        State copy() {
            State c = new State();
            c.time = time;
            c.settings = settings.clone();
            for (int[] person : people) {
                c.people.add(person.clone());
            }
            for (int[] region : regions) {
                c.regions.add(region.clone());
            }
            for (List<Integer> rota : rotas) {
                c.rotas.add(new ArrayList<>(rota));
            }
            c.overrides = new ArrayList<>(overrides);
            for (Map.Entry<Integer, Incident> e : open.entrySet()) {
                c.open.put(e.getKey(), e.getValue().copy());
            }
            // Ended ones change no more.
            c.ended = new ArrayList<>(ended);
            c.acknowledgements = new ArrayList<>(acknowledgements);
            return c;
        }

        List<Incident> all() {
            List<Incident> all = new ArrayList<>(ended);
            all.addAll(open.values());
            return all;
        }
    }

    private State now = new State();
    private final List<State> history = new ArrayList<>();
    private String text = "";

    /** Calls by the name of the face. */
    int call(String name, int a, int b, int c) {
        switch (name) {
            case "person": case "region": case "join": case "leave": case "quiet": case "except":
            case "override": case "alert": case "acknowledge": case "resolve": case "pass": case "set":
                State before = now.copy();
                int answer = change(now, name, a, b, c);
                if (answer >= 0) {
                    remember(before);
                } else {
                    now = before;
                }
                return answer;
            case "play":
                return play();
            case "undo":
                if (history.isEmpty()) {
                    return NOT_POSSIBLE;
                }
                now = history.remove(history.size() - 1);
                return history.size();
            case "type":
                if (a < 32 || a > 126) {
                    return INVALID;
                }
                if (text.length() == 80) {
                    return LIMIT;
                }
                text += (char) a;
                return text.length();
            case "clearText":
                int length = text.length();
                text = "";
                return length;
            case "fault":
                return fault(a);
            default:
                return query(name, a, b, c);
        }
    }

    private void remember(State before) {
        history.add(before);
        if (history.size() == 5) {
            history.remove(0);
        }
    }

    private static int change(State s, String name, int a, int b, int c) {
        switch (name) {
            case "person":
                if (s.people.size() == 8) {
                    return LIMIT;
                }
                s.people.add(new int[] {0, 0, 0});
                return s.people.size() - 1;
            case "region":
                if (a < 0 || a > 23 || b < 0 || b > 23 || a == b || c < 1 || c > 24) {
                    return INVALID;
                }
                if (s.regions.size() == 3) {
                    return LIMIT;
                }
                s.regions.add(new int[] {a, b, c});
                s.rotas.add(new ArrayList<>());
                return s.regions.size() - 1;
            case "join":
                if (!in(a, s.regions.size()) || !in(b, s.people.size())) {
                    return INVALID;
                }
                if (s.rotas.get(a).contains(b)) {
                    return NOT_POSSIBLE;
                }
                if (s.rotas.get(a).size() == 5) {
                    return LIMIT;
                }
                s.rotas.get(a).add(b);
                return s.rotas.get(a).size();
            case "leave":
                if (!in(a, s.regions.size()) || !in(b, s.people.size())) {
                    return INVALID;
                }
                if (!s.rotas.get(a).remove(Integer.valueOf(b))) {
                    return NOT_POSSIBLE;
                }
                return s.rotas.get(a).size();
            case "quiet":
                if (!in(a, s.people.size()) || !in(b, 24) || !in(c, 24)) {
                    return INVALID;
                }
                s.people.get(a)[0] = b;
                s.people.get(a)[1] = c;
                int hours = 0;
                for (int hour = 0; hour < 24; hour++) {
                    hours += inSpan(hour, b, c) ? 1 : 0;
                }
                return hours;
            case "except":
                if (!in(a, s.people.size()) || !in(b, 20)) {
                    return INVALID;
                }
                s.people.get(a)[2] ^= 1 << b;
                return Integer.bitCount(s.people.get(a)[2]);
            case "override":
                if (!in(a, s.regions.size()) || !in(b, s.people.size()) || c < 1 || c > 99) {
                    return INVALID;
                }
                if (inForce(s) == 6) {
                    return LIMIT;
                }
                s.overrides.add(new Override(a, b, s.time, 60 * c));
                return inForce(s);
            case "alert":
                return alert(s, a, b);
            case "acknowledge":
                return acknowledge(s, a);
            case "resolve":
                if (!s.open.containsKey(a)) {
                    return INVALID;
                }
                Incident gone = s.open.remove(a);
                gone.end = s.time;
                gone.resolver = gone.owner;
                s.ended.add(gone);
                return s.time - gone.alerts.get(0);
            case "pass":
                if (a < 1 || a > 600) {
                    return INVALID;
                }
                if (s.time + a > 30000) {
                    return LIMIT;
                }
                int before = pages(s);
                for (int i = 0; i < a; i++) {
                    minute(s);
                }
                return pages(s) - before;
            default:
                if (a == 0 && b >= 1 && b <= 120 || a == 1 && b >= 0 && b <= 600) {
                    int was = s.settings[a];
                    s.settings[a] = b;
                    return was;
                }
                return INVALID;
        }
    }

    private static boolean in(int number, int size) {
        return number >= 0 && number < size;
    }

    private static boolean inSpan(int hour, int from, int to) {
        for (int h = from; h != to; h = (h + 1) % 24) {
            if (h == hour) {
                return true;
            }
        }
        return false;
    }

    private static int inForce(State s) {
        return (int) s.overrides.stream().filter(o -> o.inForce(s.time)).count();
    }

    private static int pages(State s) {
        return s.all().stream().mapToInt(i -> i.pages.size()).sum();
    }

    private static int regionAt(State s, int time) {
        for (int r = 0; r < s.regions.size(); r++) {
            int[] region = s.regions.get(r);
            if (!s.rotas.get(r).isEmpty() && inSpan(time / 60 % 24, region[0], region[1])) {
                return r;
            }
        }
        return NOT_FOUND;
    }

    private static Integer personAt(State s, int time, int level) {
        int region = regionAt(s, time);
        if (region < 0) {
            return null;
        }
        Integer found = null;
        if (level == 0) {
            for (Override o : s.overrides) {
                if (o.region() == region && o.inForce(time)) {
                    found = o.person();
                }
            }
        }
        if (found == null) {
            List<Integer> rota = s.rotas.get(region);
            found = rota.get((time / 60 / s.regions.get(region)[2] + level) % rota.size());
        }
        return found;
    }

    private static void page(State s, Incident incident) {
        Integer person = personAt(s, s.time, incident.level);
        incident.acknowledged = false;
        incident.owner = null;
        if (person != null) {
            int[] p = s.people.get(person);
            boolean quiet = inSpan(s.time / 60 % 24, p[0], p[1]);
            boolean exception = (p[2] & 1 << incident.cause) != 0;
            if (incident.severity != 0 || !quiet || exception) {
                incident.owner = person;
                incident.pages.add(new Page(person, regionAt(s, s.time), s.time));
            }
        }
    }

    private static int alert(State s, int cause, int severity) {
        if (!in(cause, 20) || !in(severity, 3)) {
            return INVALID;
        }
        for (Map.Entry<Integer, Incident> e : s.open.entrySet()) {
            Incident i = e.getValue();
            if (i.cause == cause && i.alerts.get(i.alerts.size() - 1) + s.settings[1] >= s.time) {
                i.alerts.add(s.time);
                boolean greater = severity > i.severity;
                i.severity = Math.max(severity, i.severity);
                if (greater && i.owner == null) {
                    page(s, i);
                }
                return e.getKey();
            }
        }
        if (s.open.size() == 8) {
            return LIMIT;
        }
        int number = 0;
        while (s.open.containsKey(number)) {
            number++;
        }
        Incident fresh = new Incident();
        fresh.cause = cause;
        fresh.severity = severity;
        fresh.alerts.add(s.time);
        s.open.put(number, fresh);
        page(s, fresh);
        return number;
    }

    private static int acknowledge(State s, int number) {
        Incident i = s.open.get(number);
        if (i == null) {
            return INVALID;
        }
        if (i.owner == null || i.acknowledged) {
            return NOT_POSSIBLE;
        }
        i.acknowledged = true;
        int minutes = s.time - i.pages.get(i.pages.size() - 1).time();
        s.acknowledgements.add(minutes);
        return minutes;
    }

    private static void minute(State s) {
        s.time++;
        for (Incident i : s.open.values()) {
            boolean owned = i.owner != null;
            if (!owned) {
                i.unownedTimes.add(s.time);
            }
            Page latest = i.pages.isEmpty() ? null : i.pages.get(i.pages.size() - 1);
            int region = regionAt(s, s.time);
            if (owned && latest.region() != region) {
                i.handOffs++;
                i.level = 0;
                page(s, i);
            } else if (!owned) {
                page(s, i);
            } else if (!i.acknowledged && latest.time() + s.settings[0] <= s.time) {
                i.escalations++;
                i.level++;
                page(s, i);
            }
        }
    }

    /** The position and the reason of the fault, or null; the commands are done on the state. */
    private int[] faultOn(State s) {
        int at = 0;
        while (at < text.length()) {
            Matcher m = COMMAND.matcher(text.substring(at));
            if (!m.matches()) {
                return new int[] {at, 1};
            }
            int answer;
            if (m.group(1) != null) {
                answer = change(s, "alert", number(m, 2), number(m, 3), 0);
            } else if (m.group(6) != null) {
                answer = change(s, "override", number(m, 7), number(m, 8), number(m, 9));
            } else {
                String letter = m.group(4);
                String name = letter.equals("k") ? "acknowledge" : letter.equals("r") ? "resolve" : "pass";
                answer = change(s, name, number(m, 5), 0, 0);
            }
            if (answer < 0) {
                return new int[] {at, answer == INVALID ? 2 : 3};
            }
            at = text.indexOf(';', at) + 1;
        }
        return null;
    }

    private static int number(Matcher m, int group) {
        return Integer.parseInt(m.group(group));
    }

    private int fault(int what) {
        if (what != 0 && what != 1) {
            return INVALID;
        }
        int[] fault = faultOn(now.copy());
        return fault == null ? NOT_FOUND : fault[what];
    }

    private int play() {
        State after = now.copy();
        if (faultOn(after) != null) {
            return NOT_POSSIBLE;
        }
        remember(now);
        now = after;
        return text.replaceAll("[^;]", "").length();
    }

    private int query(String name, int a, int b, int c) {
        State s = now;
        switch (name) {
            case "rotaAt":
                if (!in(a, s.regions.size()) || b < 0) {
                    return INVALID;
                }
                return b < s.rotas.get(a).size() ? s.rotas.get(a).get(b) : NOT_FOUND;
            case "personOf":
                return personOf(s, a, b);
            case "incidentOf":
                return incidentOf(s, a, b);
            case "count":
                return count(s, a);
            case "onCall":
                if (a < 0 || a > 30000 || b < -1 || b > 9) {
                    return INVALID;
                }
                if (b == -1) {
                    return regionAt(s, s.time + a);
                }
                Integer person = personAt(s, s.time + a, b);
                return person == null ? NOT_FOUND : person;
            case "uncovered":
                int hours = 0;
                for (int hour = 0; hour < 24; hour++) {
                    hours += regionAt(s, 60 * hour) < 0 ? 1 : 0;
                }
                return hours;
            case "later":
                return later(s, a, b, c);
            case "acknowledgeBits":
                if (s.acknowledgements.isEmpty()) {
                    return NOT_FOUND;
                }
                int sum = s.acknowledgements.stream().mapToInt(m -> m).sum();
                return Float.floatToIntBits((float) sum / (float) s.acknowledgements.size());
            case "unownedBits":
                int open = s.all().stream().mapToInt(i -> (i.end == null ? s.time : i.end) - i.alerts.get(0)).sum();
                if (open == 0) {
                    return NOT_FOUND;
                }
                return Float.floatToIntBits((float) ((double) unowned(s) / (double) open));
            default:
                throw new IllegalArgumentException(name);
        }
    }

    private static int unowned(State s) {
        return s.all().stream().mapToInt(i -> i.unownedTimes.size()).sum();
    }

    private static int later(State s, int number, int minutes, int what) {
        if (!s.open.containsKey(number) || minutes < 1 || minutes > 600 || !in(what, 3)) {
            return INVALID;
        }
        State then = s.copy();
        for (int i = 0; i < minutes; i++) {
            minute(then);
        }
        return incidentOf(then, number, new int[] {3, 2, 8}[what]);
    }

    private static int personOf(State s, int person, int what) {
        if (!in(person, s.people.size())) {
            return INVALID;
        }
        int[] p = s.people.get(person);
        switch (what) {
            case 0:
                return (int) s.all().stream().flatMap(i -> i.pages.stream()).filter(g -> g.person() == person).count();
            case 1:
                return (int) s.open.values().stream().filter(i -> i.owner != null && i.owner == person).count();
            case 2:
                return (int) s.open.values().stream()
                    .filter(i -> i.owner != null && i.owner == person && i.acknowledged).count();
            case 3:
                return (int) s.ended.stream().filter(i -> i.resolver != null && i.resolver == person).count();
            case 4:
                int set = 0;
                for (int r = 0; r < s.rotas.size(); r++) {
                    set += s.rotas.get(r).contains(person) ? 1 << r : 0;
                }
                return set;
            case 5:
                return inSpan(s.time / 60 % 24, p[0], p[1]) ? 1 : 0;
            case 6:
                return p[2];
            default:
                return INVALID;
        }
    }

    private static int incidentOf(State s, int number, int what) {
        Incident i = s.open.get(number);
        if (i == null || !in(what, 12)) {
            return INVALID;
        }
        int[] simple = {
            i.cause, i.severity, i.level, i.owner == null ? NOT_FOUND : i.owner, i.acknowledged ? 1 : 0,
            i.alerts.size(), i.alerts.get(0), i.alerts.get(i.alerts.size() - 1), i.unownedTimes.size(),
            i.pages.isEmpty() ? NOT_FOUND : i.pages.get(i.pages.size() - 1).time(), i.handOffs, i.escalations,
        };
        return simple[what];
    }

    private int count(State s, int what) {
        List<Incident> all = s.all();
        switch (what) {
            case 0:
                return s.people.size();
            case 1:
                return s.regions.size();
            case 2:
                return s.time;
            case 3:
                return s.open.size();
            case 4:
                return (int) s.open.values().stream().filter(i -> i.owner == null).count();
            case 5:
                return (int) s.open.values().stream().filter(i -> i.acknowledged).count();
            case 6:
                return all.stream().mapToInt(i -> i.alerts.size()).sum();
            case 7:
                return all.stream().mapToInt(i -> i.alerts.size() - 1).sum();
            case 8:
                return pages(s);
            case 9:
                return s.ended.size();
            case 10:
                return all.stream().mapToInt(i -> i.handOffs).sum();
            case 11:
                return all.stream().mapToInt(i -> i.escalations).sum();
            case 12:
                return unowned(s);
            case 13:
                return inForce(s);
            case 14:
                return history.size();
            case 15:
                return text.length();
            case 20:
                return s.settings[0];
            case 21:
                return s.settings[1];
            default:
                return INVALID;
        }
    }
}
