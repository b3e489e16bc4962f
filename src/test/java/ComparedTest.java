import java.util.NoSuchElementException;
import java.util.Random;

/** Runs of calls by a fixed seed, every answer compared with the PlainTown's. */
public final class ComparedTest {
    private static final Due DUE = new Due();
    private static final String[] WORDS = {"carry", "stop", "fare", "hold", "fine", "gas", "dock", "not", "if", "and",
        "or", "car", "wagon", "taxi", "insured", "riders", "seats", "rain", "minute", "day", "from", "to", "times",
        ";", "(", ")", "<", "=", ">", "7", "2001", "12345", "ninechars", "x", "a1"};

    private final Random random;
    private final WalkingTown town = new WalkingTown();
    private final PlainTown plain = new PlainTown();
    private final int corners;
    /** Half of the runs have long streets and TRIPS one behind the other, so that many ride. */
    private final boolean riding;
    private int calls;
    private String run = "";

    private ComparedTest(long seed) {
        random = new Random(seed);
        riding = seed % 2 == 0;
        corners = riding ? 3 + random.nextInt(5) : 2 + random.nextInt(11);
    }

    public static void main(String[] args) {
        long first = args.length > 0 ? Long.parseLong(args[0]) : 1;
        long last = args.length > 1 ? Long.parseLong(args[1]) : 150;
        for (long seed = first; seed <= last; seed++) {
            ComparedTest test = new ComparedTest(seed);
            test.run = "run " + seed + ": ";
            if (seed % 5 == 0) test.leadWearing();
            else test.lead();
        }
        DUE.end();
    }

    private int up(int bound) {
        return random.nextInt(bound);
    }

    private int odd(int usual) {
        if (up(60) != 0) return usual;
        int[] strange = {-1, -2, Integer.MIN_VALUE, Integer.MAX_VALUE, usual + 1000, -usual, 12, 40, 200};
        return strange[up(strange.length)];
    }

    private void is(String call, long got, long want) {
        calls++;
        DUE.is(run + call, got, want);
    }

    private void is(String call, boolean got, boolean want) {
        is(call, got ? 1 : 0, want ? 1 : 0);
    }

    private void lead() {
        int streets = up(2 * corners) + corners / 2;
        for (int i = 0; i < streets; i++) street();
        for (int i = 0; i < 1 + up(9); i++) stop();
        for (int i = 0; i < 1 + up(12); i++) wheel();
        for (int i = 0; i < 4 + up(30); i++) trip();
        for (int i = 0; riding && i < 2 + up(5); i++) round(up(Math.max(1, town.count(3))));
        for (int i = 0; i < 2 + up(15); i++) person();
        if (up(3) > 0) give();
        if (up(3) > 0) law();
        if (up(2) > 0) rain();
        while (calls < 500) anything();
    }

    /** Long ways, thin SHOES, TRIPS that often fail and one MORNING behind the other: SHOES wear on the way. */
    private void leadWearing() {
        for (int i = 1; i < 8; i++) {
            int length = 20 + up(40);
            is("street", town.street(i - 1, i, length), plain.street(i - 1, i, length));
        }
        for (int i = 0; i < 8; i++) is("stop", town.stop(i), plain.stop(i));
        for (int i = 0; i < 6; i++) wheel();
        for (int i = 0; i < 40; i++) longTrip();
        for (int i = 0; i < 8; i++) {
            numbers(up(200), 300 + up(400), 10 + up(60), 1 + up(2), up(9), up(2));
            int home = up(3), work = 5 + up(3), wage = up(90);
            is("person", town.person(home, work, wage), plain.person(home, work, wage));
        }
        give();
        while (calls < 500) {
            is("next", town.next(1), plain.next(1));
            tried();
            is("morning", town.morning(), plain.morning());
            for (int p = 0; p < 8 && calls < 500; p++) {
                is("came of " + p, ofTown(p, 0), ofPlain(p, 0));
                is("SHOES of " + p, ofTown(p, 5), ofPlain(p, 5));
            }
        }
    }

    private void longTrip() {
        int w = up(6), from = up(8), to = (from + 1 + up(7)) % 8, minute = 100 + up(500);
        is("trip", town.trip(w, from, to, minute, 0, 99), plain.trip(w, from, to, minute, 0, 99));
    }

    private void numbers(int... row) {
        int[] pairs = new int[2 * row.length];
        for (int i = 0; i < pairs.length; i++) pairs[i] = (i % 2 == 0 ? row[i / 2] >> 8 : row[i / 2]) & 255;
        bytes(pairs);
    }

    private void anything() {
        int c = up(100);
        if (c < 2) street();
        else if (c < 3) stop();
        else if (c < 5) wheel();
        else if (c < 17) trip();
        else if (c < 20) person();
        else if (c < 22) give();
        else if (c < 27) law();
        else if (c < 29) rain();
        else if (c < 36) day();
        else if (c < 42) asked();
        else if (c < 48) morning();
        else if (c < 52) tried();
        else if (c < 55) seated();
        else if (c < 57) insure();
        else if (c < 58 && riding) round(up(Math.max(1, town.count(3))));
        else look();
    }

    private void street() {
        int a = odd(up(corners)), b = odd(up(corners)), length = odd(riding ? 30 + up(70) : 1 + up(up(2) == 0 ? 99 : 20));
        is("street", town.street(a, b, length), plain.street(a, b, length));
    }

    private void stop() {
        int c = odd(up(corners));
        is("stop", town.stop(c), plain.stop(c));
    }

    private void wheel() {
        int kind = odd(up(3)), base = odd(up(8)), seats = odd(1 + up(up(2) == 0 ? 9 : 3)), insured = odd(up(12) - 1);
        is("wheel", town.wheel(kind, base, seats, insured), plain.wheel(kind, base, seats, insured));
    }

    private void insure() {
        int w = odd(up(12)), day = odd(up(200) - 1);
        is("insure", town.insure(w, day), plain.insure(w, day));
    }

    private int someStop() {
        return odd(up(Math.max(1, town.count(2))));
    }

    private void trip() {
        int w = odd(up(Math.max(1, town.count(3)))), from = someStop(), to = someStop();
        if (up(3) > 0 && w >= 0 && w < plain.wheels.size()) from = plain.wheels.get(w).base;
        int minute = odd(up(2) == 0 ? 20 * up(12) : up(300));
        int first = odd(town.count(0) + up(2)), last = odd(first + up(8));
        is("trip", town.trip(w, from, to, minute, first, last), plain.trip(w, from, to, minute, first, last));
    }

    /** TRIPS of one WHEEL one behind the other from its BASE, so that it mostly stands where it is to leave. */
    private void round(int w) {
        if (w >= plain.wheels.size() || plain.stops.size() < 2) return;
        int from = plain.wheels.get(w).base;
        int minute = 40 + up(100);
        int day = town.count(0);
        for (int i = 0; i < 2 + up(4) && minute <= 719; i++) {
            int to = (from + 1 + up(plain.stops.size() - 1)) % plain.stops.size();
            is("trip", town.trip(w, from, to, minute, day, Math.min(199, day + 9)),
                    plain.trip(w, from, to, minute, day, Math.min(199, day + 9)));
            minute += up(4) == 0 ? up(30) : 15 + up(60);
            from = to;
        }
    }

    private void bytes(int... row) {
        Due.bytes(town, row);
        plain.tape.clear();
        for (int b : row) plain.tape.add(b & 255);
        is("count(7)", town.count(7), row.length);
    }

    private void person() {
        int[] n = {odd(up(250)), odd(60 + up(300)), odd(10 + up(90)), odd(up(10)), odd(up(2) == 0 ? up(8) : up(200)),
            odd(up(3) > 0 ? up(2) : up(10))};
        if (riding) {
            n[0] = up(120);
            n[5] = up(4) == 0 ? up(3) : 0;
        }
        int[] row = new int[up(40) == 0 ? up(24) : 12];
        for (int i = 0; i < Math.min(12, row.length); i++) row[i] = (i % 2 == 0 ? n[i / 2] >> 8 : n[i / 2]) & 255;
        bytes(row);
        int home = odd(up(corners)), work = odd(up(corners)), wage = odd(up(900));
        if (riding && !plain.stops.isEmpty() && up(3) > 0) home = plain.stops.get(up(plain.stops.size()));
        if (riding && !plain.stops.isEmpty() && up(3) > 0) work = plain.stops.get(up(plain.stops.size()));
        is("person", town.person(home, work, wage), plain.person(home, work, wage));
    }

    private void give() {
        int cents = odd(up(4) == 0 ? 100000 : 1 + up(700));
        is("give", town.give(cents), plain.give(cents));
    }

    private void day() {
        int n = odd(up(3));
        is("next", town.next(n), plain.next(n));
    }

    private void rain() {
        int[] row = new int[up(30) == 0 ? up(230) : 1 + up(12)];
        for (int i = 0; i < row.length; i++) row[i] = up(4) == 0 ? 255 : up(60) == 0 ? up(256) : up(10);
        bytes(row);
        is("rain", town.rain(), plain.rain());
    }

    private void law() {
        StringBuilder text = new StringBuilder();
        int lines = up(6) == 0 ? 15 + up(3) : up(9);
        if (up(20) == 0) {
            manyOnes(text);
            lines = up(2);
        }
        for (int i = 0; i < lines; i++) line(text);
        spoil(text);
        if (text.length() > 340) text.setLength(up(2) == 0 ? 340 : 300);
        if (up(10) == 0) while (text.length() < 298 + up(6)) text.append(' ');
        int[] row = new int[text.length()];
        for (int i = 0; i < row.length; i++) row[i] = text.charAt(i);
        bytes(row);
        int from = odd(town.count(0) + (up(3) == 0 ? up(4) : 0));
        is("bylaw " + text, town.bylaw(from), plain.bylaw(from));
        is("fault " + text, town.fault(), plain.fault);
        is("count(7)", town.count(7), 0);
    }

    /** Some 48 to 52 ONES, four a part. */
    private void manyOnes(StringBuilder text) {
        text.append("stop if ");
        for (int i = 0; i < 12; i++) text.append(up(2) == 0 ? "not(not car)and " : "((to>3 or car))or ");
        int more = up(4);
        for (int i = 0; i < more; i++) text.append("taxi or ");
        text.append("wagon;");
    }

    private void spoil(StringBuilder text) {
        if (up(4) != 0 || text.length() == 0) return;
        int at = up(text.length());
        int way = up(4);
        if (way == 0) text.setCharAt(at, (char) up(256));
        if (way == 1) text.insert(at, " " + WORDS[up(WORDS.length)] + " ");
        if (way == 2) text.deleteCharAt(at);
        if (way == 3) text.setLength(at);
    }

    private void line(StringBuilder text) {
        int kind = up(20);
        String[] says = {"carry", "stop"};
        String[] counts = {"fare", "hold", "fine", "gas"};
        if (kind == 0) {
            text.append("dock ").append(up(60)).append(';');
            return;
        }
        if (kind < 10) {
            text.append(says[kind < 3 ? 0 : 1]);
            if (up(3) == 0) text.append(" not");
        } else {
            String word = counts[up(4)];
            text.append(word).append(' ').append(up(30) == 0 ? 1990 + up(20) : up(word.equals("hold") ? 40 : 90));
        }
        if (up(5) > 0) {
            text.append(" if ");
            int deep = up(60);
            for (int i = 0; i < 6 && deep < 2; i++) text.append(deep == 0 ? "not " : "not(");
            cond(text, up(12) == 0 ? 9 : 1 + up(3));
            for (int i = 0; i < 6 && deep == 1; i++) text.append(')');
        }
        text.append(up(4) == 0 ? " ;\n" : ";");
    }

    private void cond(StringBuilder text, int depth) {
        int parts = up(25) == 0 ? 6 : 1 + up(2);
        for (int i = 0; i < parts; i++) {
            if (i > 0) text.append(up(2) == 0 ? " and " : " or ");
            one(text, depth);
        }
    }

    private void one(StringBuilder text, int depth) {
        int kind = up(8);
        if (depth > 0 && kind < 2) {
            text.append("not ");
            one(text, depth - 1);
        } else if (depth > 0 && kind == 2) {
            text.append('(');
            cond(text, depth - 1);
            text.append(')');
        } else if (kind < 5) {
            text.append(new String[] {"car", "wagon", "taxi", "insured"}[up(4)]);
        } else {
            int fact = up(8);
            int[] high = {4, 9, 9, 300, 12, 8, 8, 4};
            text.append(new String[] {"riders", "seats", "rain", "minute", "day", "from", "to", "times"}[fact]);
            text.append("<=>".charAt(up(3))).append(up(high[fact]));
        }
    }

    private void asked() {
        int t = odd(up(Math.max(1, town.count(4)))), what = odd(up(6)), riders = odd(up(5)), times = odd(up(3));
        is("told", town.told(t, what, riders, times), plain.told(t, what, riders, times));
        is("why", town.why(), plain.why);
    }

    private void morning() {
        is("morning", town.morning(), plain.morning());
        for (int p = 0; p < plain.people.size() && calls < 500; p++) {
            int what = up(7);
            is("of " + p + " " + what, town.of(p, what), plain.of(p, what));
        }
        for (int t = 0; t < plain.trips.size() && calls < 500; t += 1 + up(3)) is("rode " + t, town.rode(t), plain.rode(t));
        is("count(6)", town.count(6), plain.count(6));
    }

    private void tried() {
        int w = odd(up(Math.max(1, town.count(3))));
        is("tried", town.tried(w), plain.tried(w));
    }

    private void seated() {
        int had = Math.max(1, plain.wheels.size());
        int[] row = new int[Math.min(had, 1 + up(plain.stops.size() > 4 ? 3 : 5)) + (up(30) == 0 ? 2 : 0)];
        int step = up(had);
        for (int i = 0; i < row.length; i++) row[i] = up(30) == 0 ? up(256) : (step + i) % had;
        bytes(row);
        int minutes = odd(up(120));
        is("seated", town.seated(minutes), plain.seated(minutes));
        for (int k = -1; k <= 5; k++) is("seatedAt " + k, town.seatedAt(k), plain.seatedAt(k));
    }

    private void look() {
        int x = odd(up(14)), y = odd(up(8));
        switch (up(7)) {
            case 0: is("far", town.far(x, y), plain.far(x, y)); break;
            case 1: is("wet", town.wet(x), plain.wet(x)); break;
            case 2: is("rode", town.rode(x), plain.rode(x)); break;
            case 3: is("wheeled", town.wheeled(x, y), plain.wheeled(x, y)); break;
            case 4: is("count", town.count(y), plain.count(y)); break;
            case 5: is("fault", town.fault(), plain.fault); break;
            default: is("of", ofTown(x, y), ofPlain(x, y)); break;
        }
    }

    private long ofTown(int p, int what) {
        try {
            return town.of(p, what);
        } catch (NoSuchElementException e) {
            return Long.MIN_VALUE;
        }
    }

    private long ofPlain(int p, int what) {
        try {
            return plain.of(p, what);
        } catch (NoSuchElementException e) {
            return Long.MIN_VALUE;
        }
    }
}
