/** Pages at night and day: who is on call, who owns an incident, and what becomes of it. */
public final class PageRotas {
    public static final int INVALID_ARGUMENT = -1;
    public static final int NOT_POSSIBLE = -2;
    public static final int LIMIT_REACHED = -3;
    public static final int NOT_FOUND = -4;

    private static final int NONE = -1;

    private static final int PEOPLE_LIMIT = 8;
    private static final int REGION_LIMIT = 3;
    private static final int ROTA_LIMIT = 5;
    private static final int STAND_IN_LIMIT = 6;
    private static final int INCIDENT_LIMIT = 8;
    private static final int HISTORY_LIMIT = 4;
    private static final int TEXT_LIMIT = 80;

    private static final int HOURS_OF_DAY = 24;
    private static final int MINUTES_OF_HOUR = 60;
    private static final int CAUSES = 20;
    private static final int HIGHEST_SEVERITY = 2;
    private static final int LONGEST_SHIFT = 24;
    private static final int LONGEST_STAND_IN = 99;
    private static final int LONGEST_PASS = 600;
    private static final int LAST_TIME = 30000;
    private static final int FARTHEST_LOOK = 30000;
    private static final int HIGHEST_ASKED_LEVEL = 9;
    private static final int LEAST_ESCALATION = 1;
    private static final int LONGEST_ESCALATION = 120;
    private static final int LONGEST_FOLDING = 600;

    private static final int FAULT_OF_FORM = 1;
    private static final int FAULT_OF_ARGUMENT = 2;
    private static final int FAULT_OF_STATE = 3;

    private final House house;
    private final House trial;
    private final History history;
    private final Script script;

    public PageRotas() {
        house = new House();
        trial = new House();
        history = new History();
        script = new Script();
    }

    // ---- people, regions

    public int person() {
        history.prepare(house);
        return settled(house.rotas.addPerson());
    }

    public int region(int from, int to, int shift) {
        history.prepare(house);
        return settled(house.rotas.addRegion(from, to, shift));
    }

    public int join(int region, int person) {
        history.prepare(house);
        return settled(house.rotas.letJoin(region, person));
    }

    public int leave(int region, int person) {
        history.prepare(house);
        return settled(house.rotas.letLeave(region, person));
    }

    public int quiet(int person, int from, int to) {
        history.prepare(house);
        return settled(house.rotas.putQuietHours(person, from, to));
    }

    public int except(int person, int cause) {
        history.prepare(house);
        return settled(house.rotas.turnException(person, cause));
    }

    public int override(int region, int person, int hours) {
        history.prepare(house);
        return settled(house.putStandIn(region, person, hours));
    }

    public int rotaAt(int region, int index) {
        if (!house.rotas.hasRegion(region) || index < 0) {
            return INVALID_ARGUMENT;
        }
        int found = house.rotas.regions[region].memberAt(index);
        return found == NONE ? NOT_FOUND : found;
    }

    public int personOf(int person, int what) {
        if (!house.rotas.hasPerson(person)) {
            return INVALID_ARGUMENT;
        }
        Person asked = house.rotas.people[person];
        switch (what) {
            case 0:
                return asked.pages;
            case 1:
                return house.ownedBy(person, false);
            case 2:
                return house.ownedBy(person, true);
            case 3:
                return asked.resolved;
            case 4:
                return house.rotas.regionsOf(person);
            case 5:
                return asked.quiet.has(hourOfDay(house.time)) ? 1 : 0;
            case 6:
                return asked.exceptions;
            default:
                return INVALID_ARGUMENT;
        }
    }

    // ---- alerts, incidents

    public int alert(int cause, int severity) {
        history.prepare(house);
        return settled(house.takeAlert(cause, severity));
    }

    public int acknowledge(int incident) {
        history.prepare(house);
        return settled(house.takeAcknowledgement(incident));
    }

    public int resolve(int incident) {
        history.prepare(house);
        return settled(house.close(incident));
    }

    public int pass(int minutes) {
        history.prepare(house);
        return settled(house.letPass(minutes));
    }

    public int set(int what, int value) {
        history.prepare(house);
        return settled(house.putSetting(what, value));
    }

    public int incidentOf(int incident, int what) {
        if (!house.isOpen(incident)) {
            return INVALID_ARGUMENT;
        }
        Incident asked = house.incidents[incident];
        switch (what) {
            case 0:
                return asked.cause;
            case 1:
                return asked.severity;
            case 2:
                return asked.level;
            case 3:
                return asked.owner == NONE ? NOT_FOUND : asked.owner;
            case 4:
                return asked.acknowledged ? 1 : 0;
            case 5:
                return asked.alerts;
            case 6:
                return asked.firstAlert;
            case 7:
                return asked.latestAlert;
            case 8:
                return asked.unowned;
            case 9:
                return asked.pagedAt == NONE ? NOT_FOUND : asked.pagedAt;
            case 10:
                return asked.handOffs;
            case 11:
                return asked.escalations;
            default:
                return INVALID_ARGUMENT;
        }
    }

    public int count(int what) {
        switch (what) {
            case 0:
                return house.rotas.peopleCount;
            case 1:
                return house.rotas.regionCount;
            case 2:
                return house.time;
            case 3:
                return house.openIncidents();
            case 4:
                return house.ownedBy(NONE, false);
            case 5:
                return house.acknowledgedIncidents();
            case 13:
                return house.rotas.standInsAt(house.time);
            case 14:
                return history.size;
            case 15:
                return script.length;
            case 20:
                return house.escalateAfter;
            case 21:
                return house.foldWithin;
            default:
                return house.totals.numbered(what);
        }
    }

    // ---- who is on call, what will be

    public int onCall(int minutes, int level) {
        if (minutes < 0 || minutes > FARTHEST_LOOK || level < -1 || level > HIGHEST_ASKED_LEVEL) {
            return INVALID_ARGUMENT;
        }
        int time = house.time + minutes;
        int region = house.rotas.regionAt(time);
        int found = level == -1 ? region : house.rotas.personAt(region, time, level);
        return found == NONE ? NOT_FOUND : found;
    }

    public int uncovered() {
        int hours = 0;
        for (int hour = 0; hour < HOURS_OF_DAY; hour++) {
            if (house.rotas.regionAt(hour * MINUTES_OF_HOUR) == NONE) {
                hours++;
            }
        }
        return hours;
    }

    public int later(int incident, int minutes, int what) {
        if (!house.isOpen(incident) || minutes < 1 || minutes > LONGEST_PASS || what < 0 || what > 2) {
            return INVALID_ARGUMENT;
        }
        trial.copyFrom(house);
        trial.follow(incident, minutes);
        Incident then = trial.incidents[incident];
        if (what == 1) {
            return then.level;
        }
        if (what == 2) {
            return then.unowned;
        }
        return then.owner == NONE ? NOT_FOUND : then.owner;
    }

    public int acknowledgeBits() {
        Totals totals = house.totals;
        if (totals.acknowledgements <= 0) {
            return NOT_FOUND;
        }
        return bitsOf((float) totals.minutesToAcknowledge / (float) totals.acknowledgements);
    }

    public int unownedBits() {
        Totals totals = house.totals;
        if (totals.open <= 0) {
            return NOT_FOUND;
        }
        return bitsOf((float) ((double) totals.unowned / (double) totals.open));
    }

    public int undo() {
        if (history.size <= 0) {
            return NOT_POSSIBLE;
        }
        history.restore(house);
        return history.size;
    }

    // ---- texts

    public int type(int character) {
        if (character < 32 || character > 126) {
            return INVALID_ARGUMENT;
        }
        return script.append((char) character);
    }

    public int clearText() {
        int length = script.length;
        script.length = 0;
        return length;
    }

    public int fault(int what) {
        if (what < 0 || what > 1) {
            return INVALID_ARGUMENT;
        }
        trial.copyFrom(house);
        script.perform(trial);
        if (script.faultReason == NONE) {
            return NOT_FOUND;
        }
        return what == 0 ? script.faultAt : script.faultReason;
    }

    public int play() {
        trial.copyFrom(house);
        script.perform(trial);
        if (script.faultReason != NONE) {
            return NOT_POSSIBLE;
        }
        history.prepare(house);
        house.copyFrom(trial);
        return settled(script.commands);
    }

    // ---- what several calls share

    private int settled(int answer) {
        if (answer >= 0) {
            history.keepPrepared();
        }
        return answer;
    }

    private static int hourOfDay(int time) {
        return time / MINUTES_OF_HOUR % HOURS_OF_DAY;
    }

    // The library at hand has no call for a float's bits. Scaling by 2 is exact, so
    // nothing is lost; what comes here is 0 or far from the smallest floats.
    private static int bitsOf(float number) {
        if (!(number > 0f)) {
            return 0;
        }
        float rest = number;
        int exponent = 127;
        while (rest >= 2f && exponent < 254) {
            rest = rest * 0.5f;
            exponent++;
        }
        while (rest < 1f && exponent > 1) {
            rest = rest * 2f;
            exponent--;
        }
        return (exponent << 23) + (int) ((rest - 1f) * 8388608f);
    }

    /** Hours of the day from one up to another, perhaps over midnight. */
    private static final class Span {
        int from;
        int to;

        void put(int newFrom, int newTo) {
            from = newFrom;
            to = newTo;
        }

        boolean has(int hour) {
            if (from <= to) {
                return hour >= from && hour < to;
            }
            return hour >= from || hour < to;
        }

        int hours() {
            return from <= to ? to - from : to - from + HOURS_OF_DAY;
        }

        static boolean isHour(int hour) {
            return hour >= 0 && hour < HOURS_OF_DAY;
        }
    }

    private static final class Person {
        final Span quiet = new Span();
        int exceptions;
        int pages;
        int resolved;

        void copyFrom(Person other) {
            quiet.put(other.quiet.from, other.quiet.to);
            exceptions = other.exceptions;
            pages = other.pages;
            resolved = other.resolved;
        }

        boolean sleepsThrough(int cause, int severity, int hour) {
            return severity == 0 && (exceptions >> cause & 1) == 0 && quiet.has(hour);
        }
    }

    private static final class Region {
        final Span hours = new Span();
        final int[] rota = new int[ROTA_LIMIT];
        int shift;
        int size;

        void copyFrom(Region other) {
            hours.put(other.hours.from, other.hours.to);
            System.arraycopy(other.rota, 0, rota, 0, ROTA_LIMIT);
            shift = other.shift;
            size = other.size;
        }

        void put(int from, int to, int newShift) {
            hours.put(from, to);
            shift = newShift;
        }

        boolean covers(int hour) {
            return size > 0 && hours.has(hour);
        }

        int memberAt(int place) {
            return place >= 0 && place < size && place < rota.length ? rota[place] : NONE;
        }

        int placeOf(int person) {
            for (int place = 0; place < size && place < rota.length; place++) {
                if (rota[place] == person) {
                    return place;
                }
            }
            return NONE;
        }

        int add(int person) {
            if (placeOf(person) != NONE) {
                return NOT_POSSIBLE;
            }
            if (size < 0 || size >= rota.length) {
                return LIMIT_REACHED;
            }
            rota[size] = person;
            size++;
            return size;
        }

        int remove(int person) {
            int place = placeOf(person);
            if (place < 0) {
                return NOT_POSSIBLE;
            }
            for (int i = place; i + 1 < size && i + 1 < rota.length; i++) {
                rota[i] = rota[i + 1];
            }
            size--;
            return size;
        }
    }

    /** What the document calls an override. */
    private static final class StandIn {
        int region;
        int person;
        int end;

        void copyFrom(StandIn other) {
            region = other.region;
            person = other.person;
            end = other.end;
        }

        // Nobody asks about times ahead of the one at which it was made, so its end decides alone.
        boolean isInForce(int time) {
            return time < end;
        }
    }

    /**
     * People, regions and overrides: all that tells who is on call. People and regions never go but by
     * undo, which brings back the untouched rows as well: so a row that is taken into use is always new.
     */
    private static final class Rotas {
        final Person[] people = new Person[PEOPLE_LIMIT];
        final Region[] regions = new Region[REGION_LIMIT];
        final StandIn[] standIns = new StandIn[STAND_IN_LIMIT];
        int peopleCount;
        int regionCount;
        int standInCount;

        Rotas() {
            for (int i = 0; i < people.length; i++) {
                people[i] = new Person();
            }
            for (int i = 0; i < regions.length; i++) {
                regions[i] = new Region();
            }
            for (int i = 0; i < standIns.length; i++) {
                standIns[i] = new StandIn();
            }
        }

        void copyFrom(Rotas other) {
            for (int i = 0; i < people.length && i < other.people.length; i++) {
                people[i].copyFrom(other.people[i]);
            }
            for (int i = 0; i < regions.length && i < other.regions.length; i++) {
                regions[i].copyFrom(other.regions[i]);
            }
            for (int i = 0; i < standIns.length && i < other.standIns.length; i++) {
                standIns[i].copyFrom(other.standIns[i]);
            }
            peopleCount = other.peopleCount;
            regionCount = other.regionCount;
            standInCount = other.standInCount;
        }

        boolean hasPerson(int person) {
            return person >= 0 && person < peopleCount && person < people.length;
        }

        boolean hasRegion(int region) {
            return region >= 0 && region < regionCount && region < regions.length;
        }

        int addPerson() {
            int number = peopleCount;
            if (number < 0 || number >= people.length) {
                return LIMIT_REACHED;
            }
            peopleCount++;
            return number;
        }

        int addRegion(int from, int to, int shift) {
            if (!Span.isHour(from) || !Span.isHour(to) || from == to || shift < 1 || shift > LONGEST_SHIFT) {
                return INVALID_ARGUMENT;
            }
            int number = regionCount;
            if (number < 0 || number >= regions.length) {
                return LIMIT_REACHED;
            }
            regions[number].put(from, to, shift);
            regionCount++;
            return number;
        }

        int letJoin(int region, int person) {
            if (!hasRegion(region) || !hasPerson(person)) {
                return INVALID_ARGUMENT;
            }
            return regions[region].add(person);
        }

        int letLeave(int region, int person) {
            if (!hasRegion(region) || !hasPerson(person)) {
                return INVALID_ARGUMENT;
            }
            return regions[region].remove(person);
        }

        int putQuietHours(int person, int from, int to) {
            if (!hasPerson(person) || !Span.isHour(from) || !Span.isHour(to)) {
                return INVALID_ARGUMENT;
            }
            people[person].quiet.put(from, to);
            return people[person].quiet.hours();
        }

        int turnException(int person, int cause) {
            if (!hasPerson(person) || cause < 0 || cause >= CAUSES) {
                return INVALID_ARGUMENT;
            }
            people[person].exceptions ^= 1 << cause;
            return Integer.bitCount(people[person].exceptions);
        }

        int regionsOf(int person) {
            int bits = 0;
            for (int i = 0; i < regionCount && i < regions.length; i++) {
                if (regions[i].placeOf(person) != NONE) {
                    bits |= 1 << i;
                }
            }
            return bits;
        }

        int standInsAt(int time) {
            int found = 0;
            for (int i = 0; i < standInCount && i < standIns.length; i++) {
                if (standIns[i].isInForce(time)) {
                    found++;
                }
            }
            return found;
        }

        // Those that stay keep their order, as the one that was made last decides.
        void dropEndedStandIns(int time) {
            int kept = 0;
            for (int i = 0; i < standInCount && i < standIns.length; i++) {
                if (standIns[i].isInForce(time)) {
                    standIns[kept].copyFrom(standIns[i]);
                    kept++;
                }
            }
            standInCount = kept;
        }

        int addStandIn(int region, int person, int now, int end) {
            dropEndedStandIns(now);
            int place = standInCount;
            if (place < 0 || place >= standIns.length) {
                return LIMIT_REACHED;
            }
            standIns[place].region = region;
            standIns[place].person = person;
            standIns[place].end = end;
            standInCount++;
            return standInCount;
        }

        int regionAt(int time) {
            int hour = hourOfDay(time);
            for (int i = 0; i < regionCount && i < regions.length; i++) {
                if (regions[i].covers(hour)) {
                    return i;
                }
            }
            return NONE;
        }

        int personAt(int region, int time, int level) {
            if (region < 0 || region >= regions.length || level < 0 || time < 0) {
                return NONE;
            }
            if (level == 0) {
                for (int i = Math.min(standInCount, standIns.length) - 1; i >= 0; i--) {
                    if (standIns[i].region == region && standIns[i].isInForce(time)) {
                        return standIns[i].person;
                    }
                }
            }
            Region asked = regions[region];
            if (asked.shift < 1 || asked.size < 1) {
                return NONE;
            }
            return asked.memberAt((time / MINUTES_OF_HOUR / asked.shift + level) % asked.size);
        }
    }

    private static final class Incident {
        boolean open;
        int cause;
        int severity;
        int level;
        int owner;
        int region;
        int pagedAt;
        boolean acknowledged;
        int alerts;
        int firstAlert;
        int latestAlert;
        int unowned;
        int handOffs;
        int escalations;

        void copyFrom(Incident other) {
            open = other.open;
            cause = other.cause;
            severity = other.severity;
            level = other.level;
            owner = other.owner;
            region = other.region;
            pagedAt = other.pagedAt;
            acknowledged = other.acknowledged;
            alerts = other.alerts;
            firstAlert = other.firstAlert;
            latestAlert = other.latestAlert;
            unowned = other.unowned;
            handOffs = other.handOffs;
            escalations = other.escalations;
        }

        void makeNew(int newCause, int newSeverity, int now) {
            open = true;
            cause = newCause;
            severity = newSeverity;
            level = 0;
            owner = NONE;
            region = NONE;
            pagedAt = NONE;
            acknowledged = false;
            alerts = 1;
            firstAlert = now;
            latestAlert = now;
            unowned = 0;
            handOffs = 0;
            escalations = 0;
        }
    }

    /** What is counted over all incidents so far, resolved ones too. */
    private static final class Totals {
        int alerts;
        int folded;
        int pages;
        int resolved;
        int handOffs;
        int escalations;
        int unowned;
        int open;
        int acknowledgements;
        int minutesToAcknowledge;

        void copyFrom(Totals other) {
            alerts = other.alerts;
            folded = other.folded;
            pages = other.pages;
            resolved = other.resolved;
            handOffs = other.handOffs;
            escalations = other.escalations;
            unowned = other.unowned;
            open = other.open;
            acknowledgements = other.acknowledgements;
            minutesToAcknowledge = other.minutesToAcknowledge;
        }

        int numbered(int what) {
            switch (what) {
                case 6:
                    return alerts;
                case 7:
                    return folded;
                case 8:
                    return pages;
                case 9:
                    return resolved;
                case 10:
                    return handOffs;
                case 11:
                    return escalations;
                case 12:
                    return unowned;
                default:
                    return INVALID_ARGUMENT;
            }
        }
    }

    /** A whole state, but for the text. Its changes answer an error ahead of changing anything. */
    private static final class House {
        final Rotas rotas = new Rotas();
        final Incident[] incidents = new Incident[INCIDENT_LIMIT];
        final Totals totals = new Totals();
        int time;
        int escalateAfter = 10;
        int foldWithin = 30;

        House() {
            for (int i = 0; i < incidents.length; i++) {
                incidents[i] = new Incident();
            }
        }

        void copyFrom(House other) {
            rotas.copyFrom(other.rotas);
            for (int i = 0; i < incidents.length && i < other.incidents.length; i++) {
                incidents[i].copyFrom(other.incidents[i]);
            }
            totals.copyFrom(other.totals);
            time = other.time;
            escalateAfter = other.escalateAfter;
            foldWithin = other.foldWithin;
        }

        boolean isOpen(int incident) {
            return incident >= 0 && incident < incidents.length && incidents[incident].open;
        }

        int openIncidents() {
            int found = 0;
            for (int i = 0; i < incidents.length; i++) {
                if (incidents[i].open) {
                    found++;
                }
            }
            return found;
        }

        int acknowledgedIncidents() {
            int found = 0;
            for (int i = 0; i < incidents.length; i++) {
                if (incidents[i].open && incidents[i].acknowledged) {
                    found++;
                }
            }
            return found;
        }

        int ownedBy(int person, boolean onlyAcknowledged) {
            int found = 0;
            for (int i = 0; i < incidents.length; i++) {
                Incident looked = incidents[i];
                if (looked.open && looked.owner == person && (looked.acknowledged || !onlyAcknowledged)) {
                    found++;
                }
            }
            return found;
        }

        int putStandIn(int region, int person, int hours) {
            if (!rotas.hasRegion(region) || !rotas.hasPerson(person) || hours < 1 || hours > LONGEST_STAND_IN) {
                return INVALID_ARGUMENT;
            }
            return rotas.addStandIn(region, person, time, time + hours * MINUTES_OF_HOUR);
        }

        int putSetting(int what, int value) {
            int before;
            if (what == 0 && value >= LEAST_ESCALATION && value <= LONGEST_ESCALATION) {
                before = escalateAfter;
                escalateAfter = value;
                return before;
            }
            if (what == 1 && value >= 0 && value <= LONGEST_FOLDING) {
                before = foldWithin;
                foldWithin = value;
                return before;
            }
            return INVALID_ARGUMENT;
        }

        int takeAlert(int cause, int severity) {
            if (cause < 0 || cause >= CAUSES || severity < 0 || severity > HIGHEST_SEVERITY) {
                return INVALID_ARGUMENT;
            }
            for (int i = 0; i < incidents.length; i++) {
                Incident looked = incidents[i];
                if (looked.open && looked.cause == cause && time - looked.latestAlert <= foldWithin) {
                    if (fold(looked, severity)) {
                        page(looked, rotas.regionAt(time));
                    }
                    return i;
                }
            }
            for (int i = 0; i < incidents.length; i++) {
                if (!incidents[i].open) {
                    incidents[i].makeNew(cause, severity, time);
                    totals.alerts++;
                    page(incidents[i], rotas.regionAt(time));
                    return i;
                }
            }
            return LIMIT_REACHED;
        }

        // Answers whether the incident is to be paged for now.
        private boolean fold(Incident incident, int severity) {
            incident.alerts++;
            incident.latestAlert = time;
            totals.alerts++;
            totals.folded++;
            if (severity <= incident.severity) {
                return false;
            }
            incident.severity = severity;
            return incident.owner == NONE;
        }

        private void page(Incident incident, int region) {
            incident.acknowledged = false;
            incident.owner = NONE;
            incident.region = region;
            int looked = rotas.personAt(region, time, incident.level);
            if (looked < 0 || looked >= rotas.people.length) {
                return;
            }
            Person person = rotas.people[looked];
            if (person.sleepsThrough(incident.cause, incident.severity, hourOfDay(time))) {
                return;
            }
            incident.owner = looked;
            incident.pagedAt = time;
            person.pages++;
            totals.pages++;
        }

        int takeAcknowledgement(int number) {
            if (!isOpen(number)) {
                return INVALID_ARGUMENT;
            }
            Incident incident = incidents[number];
            if (incident.owner == NONE || incident.acknowledged) {
                return NOT_POSSIBLE;
            }
            int minutes = time - incident.pagedAt;
            incident.acknowledged = true;
            totals.acknowledgements++;
            totals.minutesToAcknowledge += minutes;
            return minutes;
        }

        int close(int number) {
            if (!isOpen(number)) {
                return INVALID_ARGUMENT;
            }
            Incident incident = incidents[number];
            incident.open = false;
            totals.resolved++;
            if (rotas.hasPerson(incident.owner)) {
                rotas.people[incident.owner].resolved++;
            }
            return time - incident.firstAlert;
        }

        int letPass(int minutes) {
            if (minutes < 1 || minutes > LONGEST_PASS) {
                return INVALID_ARGUMENT;
            }
            if (time + minutes > LAST_TIME) {
                return LIMIT_REACHED;
            }
            int pagesBefore = totals.pages;
            for (int minute = 0; minute < minutes; minute++) {
                time++;
                int region = rotas.regionAt(time);
                for (int i = 0; i < incidents.length; i++) {
                    if (incidents[i].open && age(incidents[i], region)) {
                        page(incidents[i], region);
                    }
                }
            }
            return totals.pages - pagesBefore;
        }

        // Incidents do not touch one another, so one alone can be followed.
        void follow(int number, int minutes) {
            if (!isOpen(number)) {
                return;
            }
            for (int minute = 0; minute < minutes; minute++) {
                time++;
                int region = rotas.regionAt(time);
                if (age(incidents[number], region)) {
                    page(incidents[number], region);
                }
            }
        }

        // Lets the present minute come to an incident, and answers whether it is to be paged for.
        private boolean age(Incident incident, int region) {
            totals.open++;
            if (incident.owner == NONE) {
                incident.unowned++;
                totals.unowned++;
            } else if (incident.region != region) {
                incident.level = 0;
                incident.handOffs++;
                totals.handOffs++;
            } else if (!incident.acknowledged && time - incident.pagedAt >= escalateAfter) {
                incident.level++;
                incident.escalations++;
                totals.escalations++;
            } else {
                return false;
            }
            return true;
        }
    }

    /** The latest states ahead of changes. One row more than is kept takes the state of the running call. */
    private static final class History {
        final House[] states = new House[HISTORY_LIMIT + 1];
        int size;

        History() {
            for (int i = 0; i < states.length; i++) {
                states[i] = new House();
            }
        }

        void prepare(House house) {
            if (size >= 0 && size < states.length) {
                states[size].copyFrom(house);
            }
        }

        void keepPrepared() {
            size++;
            if (size > HISTORY_LIMIT) {
                dropOldest();
            }
        }

        // Its row goes to the end, where the next call's state is written into it.
        private void dropOldest() {
            for (int i = 0; i + 1 < states.length; i++) {
                House older = states[i];
                states[i] = states[i + 1];
                states[i + 1] = older;
            }
            size = HISTORY_LIMIT;
        }

        void restore(House house) {
            if (size > 0 && size <= states.length) {
                size--;
                house.copyFrom(states[size]);
            }
        }
    }

    /** The text, the command of it that was read last, and what its latest performance came to. */
    private static final class Script {
        final char[] signs = new char[TEXT_LIMIT];
        final int[] numbers = new int[3];
        int length;
        int verb;
        int commands;
        int faultAt;
        int faultReason = NONE;

        int append(char sign) {
            if (length < 0 || length >= signs.length) {
                return LIMIT_REACHED;
            }
            signs[length] = sign;
            length++;
            return length;
        }

        void perform(House house) {
            int at = 0;
            commands = 0;
            faultReason = NONE;
            for (int i = 0; i < TEXT_LIMIT && at < length; i++) {
                int next = readCommand(at);
                faultReason = next == NONE ? FAULT_OF_FORM : reasonOf(obey(house));
                if (faultReason != NONE) {
                    faultAt = at;
                    return;
                }
                commands++;
                at = next;
            }
        }

        private static int reasonOf(int answer) {
            if (answer >= 0) {
                return NONE;
            }
            return answer == INVALID_ARGUMENT ? FAULT_OF_ARGUMENT : FAULT_OF_STATE;
        }

        private int obey(House house) {
            switch (verb) {
                case 'a':
                    return house.takeAlert(numbers[0], numbers[1]);
                case 'k':
                    return house.takeAcknowledgement(numbers[0]);
                case 'r':
                    return house.close(numbers[0]);
                case 'o':
                    return house.putStandIn(numbers[0], numbers[1], numbers[2]);
                case 't':
                    return house.letPass(numbers[0]);
                default:
                    return INVALID_ARGUMENT;
            }
        }

        // Answers the position behind the command's ";", or NONE if it is not of the form.
        private int readCommand(int start) {
            verb = signAt(start);
            int wanted = numbersAfter(verb);
            if (wanted == 0) {
                return NONE;
            }
            int at = start + 1;
            for (int i = 0; i < wanted && at != NONE; i++) {
                at = readNumber(at, i, i + 1 < wanted ? ',' : ';');
            }
            return at;
        }

        private int readNumber(int start, int index, char end) {
            int value = 0;
            int at = start;
            while (at < start + 3 && isDigit(signAt(at))) {
                value = value * 10 + (signAt(at) - '0');
                at++;
            }
            if (at == start || signAt(at) != end || index < 0 || index >= numbers.length) {
                return NONE;
            }
            numbers[index] = value;
            return at + 1;
        }

        // Behind the text stands a sign that no command has.
        private char signAt(int at) {
            return at >= 0 && at < length && at < signs.length ? signs[at] : (char) 0;
        }

        private static boolean isDigit(char sign) {
            return sign >= '0' && sign <= '9';
        }

        private static int numbersAfter(int verb) {
            switch (verb) {
                case 'k':
                case 'r':
                case 't':
                    return 1;
                case 'a':
                    return 2;
                case 'o':
                    return 3;
                default:
                    return 0;
            }
        }
    }
}
