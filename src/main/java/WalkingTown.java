import java.util.ArrayList;
import java.util.Arrays;
import java.util.NoSuchElementException;

/** A town that walks to work; ../shared/DOC.md says what each call promises. */
public final class WalkingTown {
    public static final int NONE = -1;

    private static final int NO_WAY = -2;
    private static final int NOT_TAKEN = -1000;
    private static final int TAPE_BYTES = 340;
    private static final int FEED_BYTES = 20;
    private static final int PERSON_BYTES = 12;
    private static final int LAST_DAY = 199;
    private static final int LAST_TRIP_MINUTE = 719;
    private static final int MOST_GIVEN = 100000;
    private static final int MOST_SEATING_MINUTES = 200;
    private static final int AS_THE_DAY_AHEAD = 255;

    private final int[] tape;
    private int tapeSize;
    private final Town town;
    private final Reader reader;
    private final Morning led;
    private final Seating seating;
    private int toldLine;
    private int faultKind;
    private int ledDay;

    public WalkingTown() {
        tape = new int[TAPE_BYTES];
        town = new Town();
        reader = new Reader();
        led = new Morning(town);
        seating = new Seating(town);
        toldLine = NONE;
        ledDay = NONE;
    }

    public int feed(int a, int b, int c, int d, int e) {
        if (tapeSize + FEED_BYTES > TAPE_BYTES) {
            return NONE;
        }
        putOnTape(a);
        putOnTape(b);
        putOnTape(c);
        putOnTape(d);
        putOnTape(e);
        return tapeSize;
    }

    private void putOnTape(int number) {
        for (int shift = 24; shift >= 0 && tapeSize < TAPE_BYTES; shift -= 8) {
            tape[tapeSize] = (number >> shift) & 255;
            tapeSize++;
        }
    }

    public boolean end(int n) {
        if (n < 0 || n > tapeSize) {
            return false;
        }
        tapeSize = n;
        return true;
    }

    public int next(int n) {
        if (n < 0 || n > LAST_DAY || town.today + n > LAST_DAY) {
            return NONE;
        }
        town.today += n;
        return town.today;
    }

    public boolean street(int a, int b, int length) {
        return town.roads.lay(a, b, length);
    }

    public int far(int a, int b) {
        if (!Roads.isCorner(a) || !Roads.isCorner(b)) {
            return NONE;
        }
        int least = town.roads.between(a, b);
        return least >= Town.NEVER ? NO_WAY : least;
    }

    public int person(int home, int work, int wage) {
        int number = NONE;
        if (tapeSize == PERSON_BYTES && Roads.isCorner(home) && Roads.isCorner(work)) {
            number = town.people.join(home, work, wage, tape);
        }
        tapeSize = 0;
        return number;
    }

    public int stop(int corner) {
        if (town.stops >= Town.MOST_STOPS || !Roads.isCorner(corner)) {
            return NONE;
        }
        town.corners[town.stops] = corner;
        town.stops++;
        return town.stops - 1;
    }

    public int wheel(int kind, int base, int seats, int insured) {
        if (!town.isStop(base) || !isDayOrNever(insured)) {
            return NONE;
        }
        return town.wheels.join(kind, base, seats, insured);
    }

    public boolean insure(int w, int day) {
        if (!town.wheels.has(w) || !isDayOrNever(day)) {
            return false;
        }
        town.wheels.insured[w] = day;
        return true;
    }

    private static boolean isDayOrNever(int day) {
        return day >= NONE && day <= LAST_DAY;
    }

    public int trip(int w, int from, int to, int minute, int first, int last) {
        if (!town.wheels.has(w) || !town.isStop(from) || !town.isStop(to) || from == to) {
            return NONE;
        }
        if (minute < 0 || minute > LAST_TRIP_MINUTE) {
            return NONE;
        }
        if (first < town.today || last < first || last > LAST_DAY || town.trips.isFull()) {
            return NONE;
        }
        int number = town.trips.join(w, from, to, minute);
        town.trips.setDays(number, first, last, town.today);
        return number;
    }

    public boolean rain() {
        boolean fits = tapeIsRain();
        if (fits) {
            for (int day = 0; day < tapeSize; day++) {
                int ahead = day == 0 ? 0 : town.drops[day - 1];
                town.drops[day] = tape[day] == AS_THE_DAY_AHEAD ? ahead : tape[day];
            }
            town.wetDays = tapeSize;
        }
        tapeSize = 0;
        return fits;
    }

    private boolean tapeIsRain() {
        if (tapeSize < 1 || tapeSize > Town.DAYS) {
            return false;
        }
        for (int i = 0; i < tapeSize; i++) {
            if (tape[i] > Town.MOST_RAIN && tape[i] != AS_THE_DAY_AHEAD) {
                return false;
            }
        }
        return true;
    }

    public int wet(int day) {
        return day < 0 || day > LAST_DAY ? NONE : town.rainOn(day);
    }

    public int give(int cents) {
        if (cents < 1 || cents > MOST_GIVEN) {
            return NONE;
        }
        town.fund = Math.min(town.fund + cents, Town.MOST_COIN);
        return town.fund;
    }

    public int bylaw(int from) {
        int answer = NOT_TAKEN;
        if (town.laws.size() < Town.MOST_LAWS && from >= town.today && from <= LAST_DAY) {
            reader.read(tape, tapeSize);
            faultKind = reader.faultKind;
            answer = faultKind == 0 ? reader.lines : -1 - reader.faultPlace;
            if (faultKind == 0) {
                town.laws.add(reader.cutOut(from));
            }
        }
        tapeSize = 0;
        return answer;
    }

    public int fault() {
        return faultKind;
    }

    public int told(int trip, int what, int riders, int times) {
        toldLine = NONE;
        if (!town.trips.has(trip) || what < 0 || what > Law.GAS || riders < 0 || times < 0) {
            return NONE;
        }
        int value = town.ask(town.lawToday(), trip, what, riders, times);
        toldLine = town.line;
        return value;
    }

    public int why() {
        return toldLine;
    }

    public int morning() {
        if (ledDay == town.today) {
            return NONE;
        }
        ledDay = town.today;
        int onTime = led.lead(NONE);
        led.settle();
        return onTime;
    }

    public int of(int p, int what) throws NoSuchElementException {
        if (!town.people.has(p) || what < 0 || what > People.LAST_WHAT) {
            throw new NoSuchElementException("no such person, or nothing such is told");
        }
        return town.people.tellOf(p, what);
    }

    public int rode(int t) {
        return town.trips.has(t) ? town.trips.left[t] : NONE;
    }

    public int wheeled(int w, int what) {
        return town.wheels.has(w) ? town.wheels.tellOf(w, what) : NONE;
    }

    public int tried(int w) {
        if (!town.wheels.has(w) || ledDay == town.today) {
            return NONE;
        }
        return led.lead(w);
    }

    public int seated(int minutes) {
        int most = NONE;
        if (minutes >= 0 && minutes <= MOST_SEATING_MINUTES && town.stops > 0 && tapeIsWheels()) {
            most = seating.seat(tape, tapeSize, minutes);
        }
        tapeSize = 0;
        return most;
    }

    private boolean tapeIsWheels() {
        if (tapeSize < 1 || tapeSize > Seating.MOST_WHEELS) {
            return false;
        }
        for (int i = 0; i < tapeSize; i++) {
            if (!town.wheels.has(tape[i]) || standsAhead(i)) {
                return false;
            }
        }
        return true;
    }

    private boolean standsAhead(int place) {
        for (int i = 0; i < place; i++) {
            if (tape[i] == tape[place]) {
                return true;
            }
        }
        return false;
    }

    public int seatedAt(int k) {
        return k < 0 || k >= seating.size ? NONE : seating.found[k];
    }

    public int count(int what) {
        switch (what) {
            case 0:
                return town.today;
            case 1:
                return town.people.size;
            case 2:
                return town.stops;
            case 3:
                return town.wheels.size;
            case 4:
                return town.trips.size;
            case 5:
                return town.laws.size();
            case 6:
                return town.fund;
            case 7:
                return tapeSize;
            default:
                return NONE;
        }
    }

    /** STREETS, and FAR of all CORNERS, kept least as STREETS come. */
    private static final class Roads {
        static final int CORNERS = 12;
        static final int MOST_STREETS = 30;
        static final int MOST_LENGTH = 99;

        final int[] least;
        int laid;

        Roads() {
            least = new int[CORNERS * CORNERS];
            for (int i = 0; i < least.length; i++) {
                least[i] = i / CORNERS == i % CORNERS ? 0 : Town.NEVER;
            }
        }

        static boolean isCorner(int corner) {
            return corner >= 0 && corner < CORNERS;
        }

        int between(int a, int b) {
            if (a < 0 || a >= CORNERS || b < 0 || b >= CORNERS) {
                return Town.NEVER;
            }
            return least[a * CORNERS + b];
        }

        boolean lay(int a, int b, int length) {
            if (laid >= MOST_STREETS || !isCorner(a) || !isCorner(b) || a == b) {
                return false;
            }
            if (length < 1 || length > MOST_LENGTH) {
                return false;
            }
            laid++;
            for (int i = 0; i < least.length; i++) {
                int from = i / CORNERS;
                int to = i % CORNERS;
                int along = between(from, a) + length + between(b, to);
                int back = between(from, b) + length + between(a, to);
                least[i] = Math.min(least[i], Math.min(along, back));
            }
            return true;
        }
    }

    /** PERSONS, with what the latest MORNING left of each. */
    private static final class People {
        static final int MOST = 40;
        static final int MOST_PURSE = 100000;
        static final int MOST_WAGE = 9999;
        static final int LAST_LEAVING = 600;
        static final int LAST_BEGINNING = 719;
        static final int LEAST_AGE = 10;
        static final int MOST_AGE = 99;
        static final int MOST_SHOES = 9;
        static final int MOST_LAG = 9;
        /** Tenths of a mile that take one of one's SHOES. */
        static final int WEARING_WAY = 300;
        static final int LAST_WHAT = 6;

        int size;
        final int[] home;
        final int[] work;
        final int[] wage;
        final int[] leaves;
        final int[] begins;
        final int[] age;
        final int[] shoes;
        final int[] purse;
        final int[] lag;
        final int[] came;
        final int[] late;
        final int[] walked;
        final int[] rides;
        final int[] walkedEver;

        People() {
            home = new int[MOST];
            work = new int[MOST];
            wage = new int[MOST];
            leaves = new int[MOST];
            begins = new int[MOST];
            age = new int[MOST];
            shoes = new int[MOST];
            purse = new int[MOST];
            lag = new int[MOST];
            came = new int[MOST];
            late = new int[MOST];
            walked = new int[MOST];
            rides = new int[MOST];
            walkedEver = new int[MOST];
        }

        boolean has(int p) {
            return p >= 0 && p < size;
        }

        int join(int homeCorner, int workCorner, int cents, int[] tape) {
            if (size >= MOST || cents < 0 || cents > MOST_WAGE || !fits(tape)) {
                return NONE;
            }
            home[size] = homeCorner;
            work[size] = workCorner;
            wage[size] = cents;
            leaves[size] = pair(tape, 0);
            begins[size] = pair(tape, 1);
            age[size] = pair(tape, 2);
            shoes[size] = pair(tape, 3);
            purse[size] = pair(tape, 4) * 10;
            lag[size] = pair(tape, 5);
            came[size] = NONE;
            size++;
            return size - 1;
        }

        private static boolean fits(int[] tape) {
            return pair(tape, 0) <= LAST_LEAVING && pair(tape, 1) <= LAST_BEGINNING
                    && pair(tape, 2) >= LEAST_AGE && pair(tape, 2) <= MOST_AGE
                    && pair(tape, 3) <= MOST_SHOES && pair(tape, 4) * 10 <= MOST_PURSE
                    && pair(tape, 5) <= MOST_LAG;
        }

        private static int pair(int[] tape, int k) {
            return tape[2 * k] * 256 + tape[2 * k + 1];
        }

        int tellOf(int p, int what) {
            switch (what) {
                case 0:
                    return came[p];
                case 1:
                    return late[p];
                case 2:
                    return walked[p];
                case 3:
                    return rides[p];
                case 4:
                    return purse[p];
                case 5:
                    return shoes[p];
                default:
                    return walkedEver[p];
            }
        }
    }

    /** WHEELS, with what the latest MORNING left of each. */
    private static final class Wheels {
        static final int MOST = 20;
        static final int MOST_SEATS = 9;
        static final int CAR = 0;
        static final int WAGON = 1;
        static final int TAXI = 2;

        int size;
        final int[] kind;
        final int[] base;
        final int[] seats;
        final int[] insured;
        final int[] coin;
        final int[] stopped;
        final int[] gone;
        final int[] at;

        Wheels() {
            kind = new int[MOST];
            base = new int[MOST];
            seats = new int[MOST];
            insured = new int[MOST];
            coin = new int[MOST];
            stopped = new int[MOST];
            gone = new int[MOST];
            at = new int[MOST];
        }

        boolean has(int w) {
            return w >= 0 && w < size;
        }

        int join(int ofKind, int toBase, int withSeats, int upTo) {
            if (size >= MOST || ofKind < CAR || ofKind > TAXI || withSeats < 1 || withSeats > MOST_SEATS) {
                return NONE;
            }
            kind[size] = ofKind;
            base[size] = toBase;
            seats[size] = withSeats;
            insured[size] = upTo;
            at[size] = toBase;
            size++;
            return size - 1;
        }

        int tellOf(int w, int what) {
            switch (what) {
                case 0:
                    return stopped[w];
                case 1:
                    return gone[w];
                case 2:
                    return coin[w];
                case 3:
                    return at[w];
                default:
                    return NONE;
            }
        }
    }

    /** TRIPS, with how many left in each in the latest MORNING. */
    private static final class Trips {
        static final int MOST = 80;
        static final int FAILED = -2;

        int size;
        final int[] wheel;
        final int[] from;
        final int[] to;
        final int[] minute;
        final int[] first;
        final int[] last;
        final int[] toldOn;
        final int[] left;

        Trips() {
            wheel = new int[MOST];
            from = new int[MOST];
            to = new int[MOST];
            minute = new int[MOST];
            first = new int[MOST];
            last = new int[MOST];
            toldOn = new int[MOST];
            left = new int[MOST];
        }

        boolean has(int t) {
            return t >= 0 && t < size;
        }

        boolean isFull() {
            return size >= MOST;
        }

        int join(int ofWheel, int fromStop, int toStop, int inMinute) {
            wheel[size] = ofWheel;
            from[size] = fromStop;
            to[size] = toStop;
            minute[size] = inMinute;
            left[size] = NONE;
            size++;
            return size - 1;
        }

        void setDays(int t, int firstDay, int lastDay, int today) {
            first[t] = firstDay;
            last[t] = lastDay;
            toldOn[t] = today;
        }

        boolean runs(int t, int day) {
            return first[t] <= day && day <= last[t];
        }
    }

    /** All that is known of the town between two calls, and what follows from it for TODAY. */
    private static final class Town {
        static final int MOST_STOPS = 8;
        static final int MOST_LAWS = 10;
        static final int MOST_COIN = 1000000;
        static final int DAYS = 200;
        static final int MOST_RAIN = 9;
        /** Above every length and MINUTE that can come, and small enough that three of it can be added. */
        static final int NEVER = 10000000;

        final Roads roads;
        final People people;
        final Wheels wheels;
        final Trips trips;
        final int[] corners;
        int stops;
        final ArrayList<Law> laws;
        final Law noLaw;
        final int[] drops;
        int wetDays;
        final int[] facts;
        int line;
        int today;
        int fund;

        Town() {
            roads = new Roads();
            people = new People();
            wheels = new Wheels();
            trips = new Trips();
            corners = new int[MOST_STOPS];
            laws = new ArrayList<Law>();
            noLaw = new Law(0, 0, 0);
            drops = new int[DAYS];
            facts = new int[Law.FACTS];
        }

        boolean isStop(int s) {
            return s >= 0 && s < stops;
        }

        int rainOn(int day) {
            if (wetDays == 0) {
                return 0;
            }
            return day < wetDays ? drops[day] : MOST_RAIN;
        }

        /** By SHOES that are given, for those of a MORNING that is only TRIED are not those of the town. */
        static int paceFor(int age, int shoes, int rain) {
            int pace = 18 + rain;
            if (age > 40) {
                pace += (age - 40) / 10;
            }
            if (shoes == 1) {
                pace += 4;
            }
            if (shoes == 0) {
                pace += 9;
            }
            return pace;
        }

        /** MINUTES for a length by a pace in MINUTES a mile, rounded up; NEVER where there is no way. */
        static int minutesFor(int length, int pace) {
            return length >= NEVER ? NEVER : (length * pace + 9) / 10;
        }

        int lengthOf(int trip) {
            return roads.between(corners[trips.from[trip]], corners[trips.to[trip]]);
        }

        int driveMinutes(int trip, int rain) {
            int kind = wheels.kind[trips.wheel[trip]];
            int pace = kind == Wheels.WAGON ? 4 : 3;
            if (rain > 4 && kind != Wheels.TAXI) {
                pace++;
            }
            return Math.max(1, minutesFor(lengthOf(trip), pace));
        }

        Law lawToday() {
            Law latest = noLaw;
            int latestDay = NONE;
            for (int i = 0; i < laws.size(); i++) {
                Law law = laws.get(i);
                if (law != null && law.from <= today && law.from >= latestDay) {
                    latest = law;
                    latestDay = law.from;
                }
            }
            return latest;
        }

        private void setFacts(int trip, int riders, int times) {
            int w = trips.wheel[trip];
            facts[Law.IS_CAR] = wheels.kind[w] == Wheels.CAR ? 1 : 0;
            facts[Law.IS_WAGON] = wheels.kind[w] == Wheels.WAGON ? 1 : 0;
            facts[Law.IS_TAXI] = wheels.kind[w] == Wheels.TAXI ? 1 : 0;
            facts[Law.IS_INSURED] = wheels.insured[w] >= today ? 1 : 0;
            facts[Law.RIDERS] = riders;
            facts[Law.SEATS] = wheels.seats[w];
            facts[Law.RAIN] = rainOn(today);
            facts[Law.MINUTE] = trips.minute[trip];
            facts[Law.DAY] = today;
            facts[Law.FROM] = trips.from[trip];
            facts[Law.TO] = trips.to[trip];
            facts[Law.TIMES] = times;
        }

        /** What a BY-LAW tells of a TRIP; the LINE that told it is kept. No text tells of a TAXI's gas. */
        int ask(Law law, int trip, int what, int riders, int times) {
            boolean taxi = wheels.kind[trips.wheel[trip]] == Wheels.TAXI;
            setFacts(trip, isAskedEmpty(what) ? 0 : riders, times);
            line = what == Law.GAS && taxi ? NONE : law.lineFor(what, facts);
            return line == NONE ? plainValue(taxi, what) : law.values[line];
        }

        /** These are asked before anybody gets in, so nobody is in it, whoever asks. */
        private static boolean isAskedEmpty(int what) {
            return what == Law.CARRY || what == Law.FARE || what == Law.GAS;
        }

        private static int plainValue(boolean taxi, int what) {
            switch (what) {
                case Law.CARRY:
                    return 1;
                case Law.FARE:
                    return taxi ? 10 : 0;
                case Law.HOLD:
                    return 15;
                case Law.FINE:
                    return 500;
                case Law.GAS:
                    return taxi ? 0 : 20;
                default:
                    return 0;
            }
        }
    }

    /** A BY-LAW: its LINES, and their CONDS as codes with each join behind its parts. */
    private static final class Law {
        static final int CARRY = 0;
        static final int STOP = 1;
        static final int FARE = 2;
        static final int HOLD = 3;
        static final int FINE = 4;
        static final int GAS = 5;
        static final int DOCK = 6;

        static final int IS_CAR = 0;
        static final int IS_WAGON = 1;
        static final int IS_TAXI = 2;
        static final int IS_INSURED = 3;
        static final int RIDERS = 4;
        static final int SEATS = 5;
        static final int RAIN = 6;
        static final int MINUTE = 7;
        static final int DAY = 8;
        static final int FROM = 9;
        static final int TO = 10;
        static final int TIMES = 11;
        static final int FACTS = 12;

        static final int LESS = 0;
        static final int EQUAL = 1;
        static final int MORE = 2;
        static final int NOT = 3;
        static final int AND = 4;
        static final int OR = 5;

        final int from;
        final int[] kinds;
        final int[] values;
        /** Where the codes of each LINE end; they begin where those of the LINE ahead end. */
        final int[] ends;
        final int[] acts;
        final int[] asked;
        final int[] numbers;

        Law(int fromDay, int lines, int codes) {
            from = fromDay;
            kinds = new int[lines];
            values = new int[lines];
            ends = new int[lines];
            acts = new int[codes];
            asked = new int[codes];
            numbers = new int[codes];
        }

        int lineFor(int kind, int[] facts) {
            for (int i = 0; i < kinds.length; i++) {
                if (kinds[i] == kind && holds(i, facts)) {
                    return i;
                }
            }
            return NONE;
        }

        /** The open answers are the bits of one number, the latest lowest: ten levels leave some twenty at most. */
        private boolean holds(int line, int[] facts) {
            int begin = line == 0 ? 0 : ends[line - 1];
            int open = 1;
            for (int i = begin; i < ends[line]; i++) {
                int fact = facts[asked[i]];
                switch (acts[i]) {
                    case NOT:
                        open ^= 1;
                        break;
                    case AND:
                        open = (open & 1) == 1 ? open >> 1 : (open >> 2) << 1;
                        break;
                    case OR:
                        open = (open & 1) == 1 ? (open >> 1) | 1 : open >> 1;
                        break;
                    case LESS:
                        open = (open << 1) | (fact < numbers[i] ? 1 : 0);
                        break;
                    case EQUAL:
                        open = (open << 1) | (fact == numbers[i] ? 1 : 0);
                        break;
                    default:
                        open = (open << 1) | (fact > numbers[i] ? 1 : 0);
                        break;
                }
            }
            return (open & 1) == 1;
        }
    }

    /** What a TOKEN is for, and its number there: the kind of a LINE, a fact or a SIGN. */
    private enum Token {
        CARRY("carry", Token.SAYS, Law.CARRY),
        STOP("stop", Token.SAYS, Law.STOP),
        FARE("fare", Token.COUNTS, Law.FARE),
        HOLD("hold", Token.COUNTS, Law.HOLD),
        FINE("fine", Token.COUNTS, Law.FINE),
        GAS("gas", Token.COUNTS, Law.GAS),
        DOCK("dock", Token.COUNTS, Law.DOCK),
        CAR("car", Token.FLAG, Law.IS_CAR),
        WAGON("wagon", Token.FLAG, Law.IS_WAGON),
        TAXI("taxi", Token.FLAG, Law.IS_TAXI),
        INSURED("insured", Token.FLAG, Law.IS_INSURED),
        RIDERS("riders", Token.FACT, Law.RIDERS),
        SEATS("seats", Token.FACT, Law.SEATS),
        RAIN("rain", Token.FACT, Law.RAIN),
        MINUTE("minute", Token.FACT, Law.MINUTE),
        DAY("day", Token.FACT, Law.DAY),
        FROM("from", Token.FACT, Law.FROM),
        TO("to", Token.FACT, Law.TO),
        TIMES("times", Token.FACT, Law.TIMES),
        LESS("<", Token.SIGN, Law.LESS),
        EQUAL("=", Token.SIGN, Law.EQUAL),
        MORE(">", Token.SIGN, Law.MORE),
        NOT("not", Token.JOINT, 0),
        IF("if", Token.JOINT, 0),
        AND("and", Token.JOINT, 0),
        OR("or", Token.JOINT, 0),
        SEMICOLON(";", Token.JOINT, 0),
        OPEN("(", Token.JOINT, 0),
        CLOSE(")", Token.JOINT, 0),
        NUMBER("", Token.JOINT, 0),
        END("", Token.JOINT, 0),
        WRONG("", Token.JOINT, 0);

        static final int SAYS = 0;
        static final int COUNTS = 1;
        static final int FLAG = 2;
        static final int FACT = 3;
        static final int SIGN = 4;
        static final int JOINT = 5;

        final String text;
        final int role;
        final int code;

        Token(String itsText, int itsRole, int itsCode) {
            text = itsText;
            role = itsRole;
            code = itsCode;
        }
    }

    /** Reads a text: first its TOKENS, then their order, up to the first FAULT. */
    private static final class Reader {
        static final int MOST_BYTES = 300;
        static final int MOST_LINES = 16;
        static final int MOST_ONES = 50;
        static final int MOST_WITHIN = 10;
        static final int MOST_VALUE = 2000;
        static final int MOST_CODES = 2 * MOST_ONES;
        static final int MOST_LETTERS = 8;
        static final int MOST_DIGITS = 4;
        static final int CANNOT_COME = 1;
        static final int TOO_HIGH = 2;
        static final int TOLD_TWICE = 3;
        static final int TOO_MANY_ONES = 4;
        private static final Token[] TOKENS = Token.values();

        final Token[] tokens;
        final int[] starts;
        final int[] numbers;
        int tokenCount;
        int place;
        final Law draft;
        int lines;
        int codes;
        int ones;
        boolean dockTold;
        int faultKind;
        int faultPlace;

        Reader() {
            tokens = new Token[MOST_BYTES + 1];
            starts = new int[MOST_BYTES + 1];
            numbers = new int[MOST_BYTES + 1];
            draft = new Law(0, MOST_LINES, MOST_CODES);
        }

        void read(int[] bytes, int size) {
            lines = 0;
            codes = 0;
            ones = 0;
            place = 0;
            dockTold = false;
            faultKind = 0;
            faultPlace = 0;
            split(bytes, size);
            for (int i = 0; i <= MOST_LINES && faultKind == 0 && token() != Token.END; i++) {
                readLine();
            }
        }

        Law cutOut(int from) {
            Law law = new Law(from, lines, codes);
            System.arraycopy(draft.kinds, 0, law.kinds, 0, lines);
            System.arraycopy(draft.values, 0, law.values, 0, lines);
            System.arraycopy(draft.ends, 0, law.ends, 0, lines);
            System.arraycopy(draft.acts, 0, law.acts, 0, codes);
            System.arraycopy(draft.asked, 0, law.asked, 0, codes);
            System.arraycopy(draft.numbers, 0, law.numbers, 0, codes);
            return law;
        }

        /** What stands behind a text of 300 bytes can't come, so the TOKEN there is WRONG and not the END. */
        private void split(int[] bytes, int size) {
            int limit = Math.min(size, MOST_BYTES);
            int at = 0;
            tokenCount = 0;
            while (at < limit) {
                if (bytes[at] == 32 || bytes[at] == 10) {
                    at++;
                } else {
                    int behind = Math.max(at + 1, endOfWord(bytes, at, size));
                    addToken(classify(bytes, at, behind), at, numberAt(bytes, at, behind));
                    at = behind;
                }
            }
            addToken(size > MOST_BYTES ? Token.WRONG : Token.END, limit, 0);
        }

        private void addToken(Token token, int start, int number) {
            if (tokenCount < tokens.length) {
                tokens[tokenCount] = token;
                starts[tokenCount] = start;
                numbers[tokenCount] = number;
                tokenCount++;
            }
        }

        private static boolean isLetter(int b) {
            return b >= 'a' && b <= 'z';
        }

        private static boolean isDigit(int b) {
            return b >= '0' && b <= '9';
        }

        private static int endOfWord(int[] bytes, int at, int size) {
            int behind = at;
            while (behind < size && (isLetter(bytes[behind]) || isDigit(bytes[behind]))) {
                behind++;
            }
            return behind;
        }

        private static Token classify(int[] bytes, int at, int behind) {
            int digits = 0;
            for (int i = at; i < behind; i++) {
                if (isDigit(bytes[i])) {
                    digits++;
                }
            }
            int length = behind - at;
            if (digits == length) {
                return length <= MOST_DIGITS ? Token.NUMBER : Token.WRONG;
            }
            return digits > 0 || length > MOST_LETTERS ? Token.WRONG : lookUp(bytes, at, length);
        }

        private static Token lookUp(int[] bytes, int at, int length) {
            for (Token token : TOKENS) {
                if (token.text.length() == length && matches(token.text, bytes, at)) {
                    return token;
                }
            }
            return Token.WRONG;
        }

        private static boolean matches(String text, int[] bytes, int at) {
            for (int i = 0; i < text.length(); i++) {
                if (text.charAt(i) != bytes[at + i]) {
                    return false;
                }
            }
            return true;
        }

        private static int numberAt(int[] bytes, int at, int behind) {
            int number = 0;
            for (int i = at; i < behind && i < at + MOST_DIGITS; i++) {
                number = number * 10 + (isDigit(bytes[i]) ? bytes[i] - '0' : 0);
            }
            return number;
        }

        private Token token() {
            Token token = tokens[place];
            return token == null ? Token.WRONG : token;
        }

        private void step() {
            if (place < tokenCount - 1) {
                place++;
            }
        }

        /** Always false, so that a reading function can answer with it. */
        private boolean fail(int kind) {
            faultKind = kind;
            faultPlace = starts[place];
            return false;
        }

        private boolean take(Token wanted) {
            if (token() != wanted) {
                return fail(CANNOT_COME);
            }
            step();
            return true;
        }

        private boolean readLine() {
            Token head = token();
            if (head.role != Token.SAYS && head.role != Token.COUNTS) {
                return fail(CANNOT_COME);
            }
            if (lines >= MOST_LINES || head == Token.DOCK && dockTold) {
                return fail(TOLD_TWICE);
            }
            dockTold = dockTold || head == Token.DOCK;
            step();
            draft.kinds[lines] = head.code;
            if (!(head.role == Token.SAYS ? readNot() : readValue())) {
                return false;
            }
            if (head != Token.DOCK && token() == Token.IF) {
                step();
                if (!readCond(0)) {
                    return false;
                }
            }
            draft.ends[lines] = codes;
            lines++;
            return take(Token.SEMICOLON);
        }

        private boolean readNot() {
            boolean not = token() == Token.NOT;
            draft.values[lines] = not ? 0 : 1;
            if (not) {
                step();
            }
            return true;
        }

        private boolean readValue() {
            if (token() == Token.NUMBER && numbers[place] > MOST_VALUE) {
                return fail(TOO_HIGH);
            }
            draft.values[lines] = numbers[place];
            return take(Token.NUMBER);
        }

        private boolean readCond(int within) {
            if (!readAll(within)) {
                return false;
            }
            for (int i = 0; i < MOST_ONES && token() == Token.OR; i++) {
                step();
                if (!readAll(within)) {
                    return false;
                }
                addCode(Law.OR, 0, 0);
            }
            return true;
        }

        private boolean readAll(int within) {
            if (!readOne(within)) {
                return false;
            }
            for (int i = 0; i < MOST_ONES && token() == Token.AND; i++) {
                step();
                if (!readOne(within)) {
                    return false;
                }
                addCode(Law.AND, 0, 0);
            }
            return true;
        }

        private boolean readOne(int within) {
            Token first = token();
            boolean plain = first.role == Token.FLAG || first.role == Token.FACT;
            if (!plain && first != Token.NOT && first != Token.OPEN) {
                return fail(CANNOT_COME);
            }
            if (ones >= MOST_ONES || within >= MOST_WITHIN) {
                return fail(TOO_MANY_ONES);
            }
            ones++;
            step();
            if (first == Token.NOT) {
                boolean read = readOne(within + 1);
                addCode(Law.NOT, 0, 0);
                return read;
            }
            if (first == Token.OPEN) {
                return readCond(within + 1) && take(Token.CLOSE);
            }
            return first.role == Token.FLAG ? addCode(Law.MORE, first.code, 0) : readSign(first.code);
        }

        private boolean readSign(int fact) {
            Token sign = token();
            if (sign.role != Token.SIGN) {
                return fail(CANNOT_COME);
            }
            step();
            if (token() != Token.NUMBER) {
                return fail(CANNOT_COME);
            }
            addCode(sign.code, fact, numbers[place]);
            step();
            return true;
        }

        /** Always true, so that a reading function can answer with it. */
        private boolean addCode(int act, int fact, int number) {
            if (codes < MOST_CODES) {
                draft.acts[codes] = act;
                draft.asked[codes] = fact;
                draft.numbers[codes] = number;
                codes++;
            }
            return true;
        }
    }

    /** The ways by TRIPS of TODAY; rows go by places, the TRIP that leaves last first. */
    private static final class Ways {
        final Town town;
        int size;
        final int[] trip;
        final int[] comes;
        /** The place ahead, of a TRIP from the same STOP in that MINUTE or later. */
        final int[] laterHere;
        /** The place of the first TRIP that one can change to where this one comes. */
        final int[] onward;
        /** The MINUTE at WORK by this TRIP. */
        final int[] atWork;
        /** The least MINUTE at WORK by this TRIP or a later one from the same STOP. */
        final int[] best;
        final int[] pace;

        Ways(Town itsTown) {
            town = itsTown;
            trip = new int[Trips.MOST];
            comes = new int[Trips.MOST];
            laterHere = new int[Trips.MOST];
            onward = new int[Trips.MOST];
            atWork = new int[Trips.MOST];
            best = new int[Trips.MOST];
            pace = new int[People.MOST];
        }

        void layOut(int leftOut) {
            int rain = town.rainOn(town.today);
            size = 0;
            for (int t = 0; t < town.trips.size; t++) {
                boolean goes = town.trips.runs(t, town.today) && town.trips.wheel[t] != leftOut;
                if (goes && town.lengthOf(t) < Town.NEVER) {
                    sortIn(t);
                }
            }
            for (int k = 0; k < size; k++) {
                comes[k] = town.trips.minute[trip[k]] + town.driveMinutes(trip[k], rain);
                laterHere[k] = lastAhead(k, town.trips.from[trip[k]], 0);
                onward[k] = lastAhead(k, town.trips.to[trip[k]], comes[k]);
            }
        }

        private void sortIn(int t) {
            int k = size;
            while (k > 0 && town.trips.minute[trip[k - 1]] < town.trips.minute[t]) {
                trip[k] = trip[k - 1];
                k--;
            }
            trip[k] = t;
            size++;
        }

        private int lastAhead(int place, int stop, int minute) {
            for (int k = place - 1; k >= 0; k--) {
                if (town.trips.from[trip[k]] == stop && town.trips.minute[trip[k]] >= minute) {
                    return k;
                }
            }
            return NONE;
        }

        void setPace(int p, int shoes) {
            pace[p] = Town.paceFor(town.people.age[p], shoes, town.rainOn(town.today));
        }

        int walkMinutes(int p, int a, int b) {
            return Town.minutesFor(town.roads.between(a, b), pace[p]);
        }

        /** The first TRIP of the way of p from a CORNER; NONE, if no way is at WORK ahead of walking. */
        int firstTrip(int p, int corner, int minute, int notAhead) {
            weigh(p);
            int least = Math.min(Town.NEVER, minute + walkMinutes(p, corner, town.people.work[p]));
            int first = NONE;
            for (int k = 0; k < size; k++) {
                int t = trip[k];
                boolean sooner = atWork[k] < least || atWork[k] == least && first > t;
                if (sooner && reaches(p, corner, minute, t) && town.trips.minute[t] >= notAhead) {
                    least = atWork[k];
                    first = t;
                }
            }
            return first;
        }

        private boolean reaches(int p, int corner, int minute, int t) {
            int walk = walkMinutes(p, corner, town.corners[town.trips.from[t]]);
            return hasHeard(p, t) && minute + walk <= town.trips.minute[t];
        }

        private boolean hasHeard(int p, int t) {
            return town.trips.toldOn[t] + town.people.lag[p] <= town.today;
        }

        /** Later TRIPS come first, so what follows on a TRIP is known when it is weighed. */
        private void weigh(int p) {
            for (int k = 0; k < size; k++) {
                int corner = town.corners[town.trips.to[trip[k]]];
                int onFoot = comes[k] + walkMinutes(p, corner, town.people.work[p]);
                int riding = onward[k] == NONE ? Town.NEVER : best[onward[k]];
                atWork[k] = Math.min(onFoot, riding);
                best[k] = laterHere[k] == NONE ? Town.NEVER : best[laterHere[k]];
                if (hasHeard(p, trip[k])) {
                    best[k] = Math.min(best[k], atWork[k]);
                }
            }
        }
    }

    /** A MORNING on rows of its own, so that one that is only TRIED changes nothing. */
    private static final class Morning {
        static final int MINUTES = 840;

        final Town town;
        final Ways ways;
        Law law;
        int leftOut;
        int fund;
        final int[] purse;
        final int[] shoes;
        final int[] came;
        final int[] walked;
        final int[] rides;
        /** The TRIP for which one waits or to whose STOP one walks. */
        final int[] waitsFor;
        final int[] inside;
        final int[] coin;
        final int[] stopped;
        final int[] gone;
        final int[] at;
        /** The MINUTE in which a WHEEL comes; NONE while it stands. */
        final int[] comes;
        final int[] left;
        /** MINUTES in which there is something to do. */
        final int[] busy;

        Morning(Town itsTown) {
            town = itsTown;
            ways = new Ways(itsTown);
            law = itsTown.noLaw;
            purse = new int[People.MOST];
            shoes = new int[People.MOST];
            came = new int[People.MOST];
            walked = new int[People.MOST];
            rides = new int[People.MOST];
            waitsFor = new int[People.MOST];
            inside = new int[People.MOST];
            coin = new int[Wheels.MOST];
            stopped = new int[Wheels.MOST];
            gone = new int[Wheels.MOST];
            at = new int[Wheels.MOST];
            comes = new int[Wheels.MOST];
            left = new int[Trips.MOST];
            busy = new int[MINUTES];
        }

        /** How many are at WORK when they BEGIN, without the TRIPS of one WHEEL (NONE: with all). */
        int lead(int withoutWheel) {
            leftOut = withoutWheel;
            law = town.lawToday();
            fund = town.fund;
            Arrays.fill(busy, 0);
            readyPeople();
            readyWheels();
            readyTrips();
            ways.layOut(withoutWheel);
            for (int minute = 0; minute < MINUTES; minute++) {
                if (busy[minute] != 0) {
                    landWheels(minute);
                    leaveHomes(minute);
                    sendTrips(minute);
                    chooseAgain(minute);
                }
            }
            return countOnTime();
        }

        private void readyPeople() {
            for (int p = 0; p < town.people.size; p++) {
                purse[p] = town.people.purse[p];
                shoes[p] = town.people.shoes[p];
                ways.setPace(p, shoes[p]);
                came[p] = NONE;
                walked[p] = 0;
                rides[p] = 0;
                waitsFor[p] = NONE;
                inside[p] = NONE;
                markBusy(town.people.leaves[p]);
            }
        }

        private void readyWheels() {
            for (int w = 0; w < town.wheels.size; w++) {
                coin[w] = town.wheels.coin[w];
                stopped[w] = 0;
                gone[w] = 0;
                at[w] = town.wheels.base[w];
                comes[w] = NONE;
            }
        }

        private void readyTrips() {
            for (int t = 0; t < town.trips.size; t++) {
                left[t] = NONE;
                if (goesToday(t)) {
                    markBusy(town.trips.minute[t]);
                }
            }
        }

        private void markBusy(int minute) {
            if (minute >= 0 && minute < MINUTES) {
                busy[minute] = 1;
            }
        }

        private boolean goesToday(int t) {
            return town.trips.runs(t, town.today) && town.trips.wheel[t] != leftOut;
        }

        private void landWheels(int minute) {
            for (int p = 0; p < town.people.size; p++) {
                int w = inside[p];
                if (w != NONE && comes[w] == minute) {
                    inside[p] = NONE;
                    choose(p, town.corners[at[w]], minute, minute);
                }
            }
            for (int w = 0; w < town.wheels.size; w++) {
                if (comes[w] == minute) {
                    comes[w] = NONE;
                }
            }
        }

        private void leaveHomes(int minute) {
            for (int p = 0; p < town.people.size; p++) {
                if (town.people.leaves[p] == minute) {
                    choose(p, town.people.home[p], minute, minute);
                }
            }
        }

        private void chooseAgain(int minute) {
            for (int p = 0; p < town.people.size; p++) {
                int t = waitsFor[p];
                if (t != NONE && town.trips.minute[t] == minute) {
                    choose(p, town.corners[town.trips.from[t]], minute, minute + 1);
                }
            }
        }

        private void choose(int p, int corner, int minute, int notAhead) {
            int t = ways.firstTrip(p, corner, minute, notAhead);
            int work = town.people.work[p];
            int goal = t == NONE ? work : town.corners[town.trips.from[t]];
            waitsFor[p] = t;
            int length = town.roads.between(corner, goal);
            if (length >= Town.NEVER) {
                return;
            }
            int there = minute + ways.walkMinutes(p, corner, goal);
            if (t == NONE && there < MINUTES) {
                came[p] = there;
            }
            walk(p, length);
        }

        /** SHOES wear when one sets out, so this walk is timed ahead of it, and a later CHOOSE goes by the new pace. */
        private void walk(int p, int length) {
            int ahead = town.people.walkedEver[p] + walked[p];
            int worn = (ahead + length) / People.WEARING_WAY - ahead / People.WEARING_WAY;
            walked[p] += length;
            if (worn > 0) {
                shoes[p] = Math.max(0, shoes[p] - worn);
                ways.setPace(p, shoes[p]);
            }
        }

        private void sendTrips(int minute) {
            for (int t = 0; t < town.trips.size; t++) {
                if (town.trips.minute[t] == minute && goesToday(t)) {
                    send(t, minute);
                }
            }
        }

        private void send(int t, int minute) {
            int times = stopped[town.trips.wheel[t]];
            left[t] = Trips.FAILED;
            int gas = town.ask(law, t, Law.GAS, 0, times);
            if (!standsReady(t) || gas > fund || town.ask(law, t, Law.CARRY, 0, times) == 0) {
                return;
            }
            fund -= gas;
            int riders = board(t, town.ask(law, t, Law.FARE, 0, times));
            int held = 0;
            if (town.ask(law, t, Law.STOP, riders, times) != 0) {
                held = halt(t, riders);
            }
            if (held != NONE) {
                left[t] = riders;
                setOut(t, minute + held);
            }
        }

        private boolean standsReady(int t) {
            int w = town.trips.wheel[t];
            return comes[w] == NONE && at[w] == town.trips.from[t] && gone[w] == 0
                    && town.lengthOf(t) < Town.NEVER;
        }

        private int board(int t, int fare) {
            int w = town.trips.wheel[t];
            int riders = 0;
            for (int seat = 0; seat < town.wheels.seats[w]; seat++) {
                int p = firstInLine(t, fare);
                if (p != NONE) {
                    waitsFor[p] = NONE;
                    inside[p] = w;
                    purse[p] -= fare;
                    earn(w, fare);
                    riders++;
                }
            }
            return riders;
        }

        private int firstInLine(int t, int fare) {
            int first = NONE;
            for (int p = 0; p < town.people.size; p++) {
                if (waitsFor[p] == t && purse[p] >= fare
                        && (first == NONE || town.people.begins[p] < town.people.begins[first])) {
                    first = p;
                }
            }
            return first;
        }

        private void earn(int w, int cents) {
            if (town.wheels.kind[w] == Wheels.TAXI) {
                coin[w] = Math.min(coin[w] + cents, Town.MOST_COIN);
            } else {
                fund = Math.min(fund + cents, Town.MOST_COIN);
            }
        }

        /** The MINUTES for which a stopped WHEEL is held; NONE, if its fine can't be paid. */
        private int halt(int t, int riders) {
            int w = town.trips.wheel[t];
            int fine = town.ask(law, t, Law.FINE, riders, stopped[w]);
            int held = town.ask(law, t, Law.HOLD, riders, stopped[w]);
            stopped[w]++;
            if (pays(w, fine)) {
                return held;
            }
            gone[w] = 1;
            for (int p = 0; p < town.people.size; p++) {
                if (inside[p] == w) {
                    inside[p] = NONE;
                    waitsFor[p] = t;
                }
            }
            return NONE;
        }

        private boolean pays(int w, int fine) {
            boolean taxi = town.wheels.kind[w] == Wheels.TAXI;
            if (fine > (taxi ? coin[w] : fund)) {
                return false;
            }
            if (taxi) {
                coin[w] -= fine;
            } else {
                fund -= fine;
            }
            return true;
        }

        private void setOut(int t, int minute) {
            int w = town.trips.wheel[t];
            at[w] = town.trips.to[t];
            comes[w] = minute + town.driveMinutes(t, town.rainOn(town.today));
            markBusy(comes[w]);
            for (int p = 0; p < town.people.size; p++) {
                if (inside[p] == w) {
                    rides[p]++;
                }
            }
        }

        private int countOnTime() {
            int onTime = 0;
            for (int p = 0; p < town.people.size; p++) {
                if (came[p] != NONE && came[p] <= town.people.begins[p]) {
                    onTime++;
                }
            }
            return onTime;
        }

        /** Makes the MORNING that was led the latest one, with what is done at its end. */
        void settle() {
            town.fund = fund;
            int line = law.lineFor(Law.DOCK, town.facts);
            int dock = line == NONE ? 0 : law.values[line];
            for (int p = 0; p < town.people.size; p++) {
                settlePerson(p, dock);
            }
            for (int w = 0; w < town.wheels.size; w++) {
                town.wheels.coin[w] = coin[w];
                town.wheels.stopped[w] = stopped[w];
                town.wheels.gone[w] = gone[w];
                town.wheels.at[w] = at[w];
            }
            for (int t = 0; t < town.trips.size; t++) {
                town.trips.left[t] = left[t];
            }
        }

        private void settlePerson(int p, int dock) {
            People people = town.people;
            int end = came[p] == NONE ? MINUTES : came[p];
            int late = Math.max(0, end - people.begins[p]);
            int pay = Math.max(0, people.wage[p] - dock * (late / 10));
            people.came[p] = came[p];
            people.late[p] = late;
            people.walked[p] = walked[p];
            people.rides[p] = rides[p];
            people.purse[p] = Math.min(purse[p] + pay, People.MOST_PURSE);
            people.walkedEver[p] += walked[p];
            people.shoes[p] = shoes[p];
        }
    }

    /** SEATED: STOPS for some WHEELS, the first of those by which most PERSONS are seated. */
    private static final class Seating {
        static final int MOST_WHEELS = 5;

        final Town town;
        /** By STOPS: the PERSONS who can walk there in time, a bit each. */
        final long[] reach;
        /** STOPS that can come: one whose PERSONS all reach a lesser one is never in the first of like ones. */
        final int[] kept;
        int keptCount;
        /** By sets of STOPS: how many PERSONS reach one of them. */
        final int[] near;
        final int[] seats;
        /** Seats of the WHEELS from each one on. */
        final int[] seatsLeft;
        /** By sets of the first k WHEELS, with 1 << k above their bits: their STOPS. */
        final int[] stopsOf;
        /** By the same sets: seats of those of the first k WHEELS that are not in the set. */
        final int[] outside;
        /** Places in the row of STOPS that can come. */
        final int[] place;
        final int[] found;
        int size;
        int people;
        int best;

        Seating(Town itsTown) {
            town = itsTown;
            reach = new long[Town.MOST_STOPS];
            kept = new int[Town.MOST_STOPS];
            near = new int[1 << Town.MOST_STOPS];
            seats = new int[MOST_WHEELS];
            seatsLeft = new int[MOST_WHEELS + 1];
            stopsOf = new int[2 << MOST_WHEELS];
            outside = new int[2 << MOST_WHEELS];
            place = new int[MOST_WHEELS];
            found = new int[MOST_WHEELS];
        }

        int seat(int[] wheels, int wheelCount, int minutes) {
            size = wheelCount;
            readySeats(wheels);
            readyStops(minutes);
            best = NONE;
            put(0, 0);
            return best;
        }

        private void readySeats(int[] wheels) {
            seatsLeft[size] = 0;
            for (int k = size - 1; k >= 0; k--) {
                seats[k] = town.wheels.seats[wheels[k]];
                seatsLeft[k] = seatsLeft[k + 1] + seats[k];
            }
            stopsOf[1] = 0;
            outside[1] = 0;
            for (int k = 0; k < size; k++) {
                int sets = 1 << k;
                for (int set = sets; set < 2 * sets; set++) {
                    outside[set + sets] = outside[set] + seats[k];
                    outside[set + 2 * sets] = outside[set];
                }
            }
        }

        private void readyStops(int minutes) {
            int rain = town.rainOn(town.today);
            Arrays.fill(reach, 0L);
            for (int p = 0; p < town.people.size; p++) {
                int pace = Town.paceFor(town.people.age[p], town.people.shoes[p], rain);
                for (int s = 0; s < town.stops; s++) {
                    int length = town.roads.between(town.people.home[p], town.corners[s]);
                    if (Town.minutesFor(length, pace) <= minutes) {
                        reach[s] |= 1L << p;
                    }
                }
            }
            keptCount = 0;
            for (int s = 0; s < town.stops; s++) {
                if (!isCovered(s)) {
                    kept[keptCount] = s;
                    keptCount++;
                }
            }
            countNear();
        }

        private boolean isCovered(int stop) {
            for (int s = 0; s < stop; s++) {
                if ((reach[stop] & ~reach[s]) == 0) {
                    return true;
                }
            }
            return false;
        }

        private void countNear() {
            for (int set = 0; set < 1 << town.stops; set++) {
                long who = 0;
                for (int s = 0; s < town.stops; s++) {
                    if ((set >> s & 1) == 1) {
                        who |= reach[s];
                    }
                }
                near[set] = Long.bitCount(who);
                people = near[set];
            }
        }

        /** Puts the k-th WHEEL and those behind it; what can't be above the best is left aside. */
        private void put(int k, int seatedAhead) {
            if (k >= size) {
                best = seatedAhead;
                for (int i = 0; i < size; i++) {
                    found[i] = kept[place[i]];
                }
                return;
            }
            for (int i = firstPlace(k); i < keptCount; i++) {
                place[k] = i;
                int most = Math.min(seatedAhead + seats[k], mostWith(k, kept[i]));
                if (Math.min(people, most + seatsLeft[k + 1]) > best) {
                    put(k + 1, most);
                }
            }
        }

        /** Of two WHEELS with like SEATS the first one has not the higher STOP: else they could change. */
        private int firstPlace(int k) {
            for (int i = k - 1; i >= 0; i--) {
                if (seats[i] == seats[k]) {
                    return place[i];
                }
            }
            return 0;
        }

        /** How many are seated is the least, over sets of WHEELS, of who is near the set and the seats outside it. */
        private int mostWith(int k, int stop) {
            int sets = 1 << k;
            int least = people;
            for (int set = sets; set < 2 * sets; set++) {
                int with = stopsOf[set] | 1 << stop;
                stopsOf[set + sets] = stopsOf[set];
                stopsOf[set + 2 * sets] = with;
                least = Math.min(least, near[with] + outside[set]);
            }
            return least;
        }
    }
}
