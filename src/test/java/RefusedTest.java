import java.util.ArrayList;
import java.util.Arrays;
import java.util.List;
import java.util.NoSuchElementException;

/**
 * Calls that are refused, each number just outside its range and far outside of it: each answers as it is due, and
 * two towns of which one was asked go on alike. The same for calls that only look.
 */
public final class RefusedTest {
    private static final Due DUE = new Due();
    /** Answers that are no int's. */
    private static final long THROWN = Long.MIN_VALUE;
    private static final int MOST_CALLS = 512;

    private interface Call {
        long on(WalkingTown town);
    }

    public static void main(String[] args) {
        rangesOfPlaces();
        rangesOfWheels();
        rangesOfTrips();
        rangesOfDays();
        rangesOfPersons();
        wrongTapes();
        wrongQuestions();
        fullTowns();
        fullTape();
        secondMorning();
        onlyLooking();
        endsOfRanges();
        DUE.end();
    }

    /** Numbers outside of a range: next to it, at the ends of an int, and such as would fit if bits were cut off. */
    private static int[] outside(int low, int high) {
        int[] some = {low - 1, high + 1, Integer.MIN_VALUE, Integer.MAX_VALUE, low + 256, low + 65536, low - 65536,
            high + (1 << 24), low | Integer.MIN_VALUE};
        return Arrays.stream(some).filter(x -> x < low || x > high).toArray();
    }

    private static long of(WalkingTown town, int p, int what) {
        try {
            return town.of(p, what);
        } catch (NoSuchElementException e) {
            return THROWN;
        }
    }

    /** On DAY 2, with a MORNING of DAY 1 behind it, a FAULT of kind 2, a LINE that told, some SEATED, and 7 bytes. */
    private static WalkingTown base() {
        WalkingTown town = new WalkingTown();
        for (int i = 0; i < 4; i++) {
            town.street(i, i + 1, 20 + 10 * i);
            town.stop(i);
        }
        town.wheel(0, 0, 2, 5);
        town.wheel(1, 1, 3, -1);
        town.wheel(2, 0, 1, 199);
        int[][] trips = {{0, 0, 2, 100, 1}, {1, 1, 3, 110, 0}, {2, 0, 3, 90, 0}, {0, 2, 3, 140, 2}, {1, 3, 0, 170, 2},
            {2, 3, 0, 150, 3}};
        for (int[] t : trips) {
            town.trip(t[0], t[1], t[2], t[3], t[4], 50);
        }
        for (int p = 0; p < 4; p++) {
            Due.numbers(town, 60 + 10 * p, 130 + p, 35 + 8 * p, p, 20 + p, p % 2);
            town.person(p % 2, 3 + p / 3, 100 + p);
        }
        town.give(900);
        Due.bytes(town, 0, 6, 3);
        town.rain();
        Due.law(town, 0, "stop if riders>1;fine 30 if times>0;hold 4;dock 3;fare 5 if wagon;");
        Due.law(town, 1, "fare 2001;");
        Due.bytes(town, 2, 1);
        town.seated(50);
        town.next(1);
        town.morning();
        town.next(1);
        town.told(1, 2, 1, 1);
        Due.bytes(town, 7, 1, 255, 4, 0, 9, 2);
        return town;
    }

    /** All that can be seen of a town, and then how it goes on. */
    private static List<Long> goOn(WalkingTown town) {
        List<Long> seen = new ArrayList<>();
        look(town, seen);
        seen.add((long) town.why());
        for (int t = 0; t < 6; t++) {
            for (int what = 0; what < 6; what++) {
                seen.add((long) town.told(t, what, 2, 1));
            }
            seen.add((long) town.why());
        }
        seen.add(town.rain() ? 1L : 0);
        for (int day = 0; day < 9; day++) {
            seen.add((long) town.wet(day));
        }
        for (int w = 0; w < 3; w++) {
            seen.add((long) town.tried(w));
        }
        seen.add((long) town.morning());
        seen.add((long) town.next(1));
        seen.add((long) town.morning());
        look(town, seen);
        for (int i = 0; i < 27 && town.street(10, 11, 9); i++) {
            seen.add((long) i);
        }
        return seen;
    }

    private static void look(WalkingTown town, List<Long> seen) {
        for (int what = 0; what < 8; what++) {
            seen.add((long) town.count(what));
        }
        seen.add((long) town.fault());
        for (int k = 0; k < 3; k++) {
            seen.add((long) town.seatedAt(k));
        }
        for (int corner = 1; corner < 6; corner++) {
            seen.add((long) town.far(0, corner));
        }
        for (int p = 0; p < 5; p++) {
            for (int what = 0; what < 7; what++) {
                seen.add(of(town, p, what));
            }
        }
        for (int t = 0; t < 7; t++) {
            seen.add((long) town.rode(t));
        }
        for (int w = 0; w < 4; w++) {
            for (int what = 0; what < 4; what++) {
                seen.add((long) town.wheeled(w, what));
            }
        }
    }

    private static void alike(String call, WalkingTown asked, WalkingTown other) {
        List<Long> one = goOn(asked);
        List<Long> two = goOn(other);
        DUE.is("as many answers behind " + call, one.size(), two.size());
        int unlike = -1;
        for (int i = 0; i < Math.min(one.size(), two.size()) && unlike < 0; i++) {
            if (!one.get(i).equals(two.get(i))) {
                unlike = i;
            }
        }
        DUE.is("the first unlike answer behind " + call, unlike, -1);
        DUE.is("few enough answers", one.size() < MOST_CALLS, true);
    }

    private static void refused(String name, long due, Call call) {
        WalkingTown town = base();
        DUE.is(name, call.on(town), due);
        alike(name, town, base());
    }

    /** What reads the tape leaves it empty, whatever it answers. */
    private static void refusedWithTape(String name, long due, int[] tape, Call call) {
        WalkingTown town = base();
        Due.bytes(town, tape);
        DUE.is(name, call.on(town), due);
        WalkingTown other = base();
        other.end(0);
        alike(name, town, other);
    }

    private static void rangesOfPlaces() {
        for (int x : outside(0, 11)) {
            refused("street(" + x + ", 1, 5)", 0, t -> t.street(x, 1, 5) ? 1 : 0);
            refused("street(1, " + x + ", 5)", 0, t -> t.street(1, x, 5) ? 1 : 0);
            refused("far(" + x + ", 1)", -1, t -> t.far(x, 1));
            refused("far(1, " + x + ")", -1, t -> t.far(1, x));
            refused("stop(" + x + ")", -1, t -> t.stop(x));
        }
        for (int x : outside(1, 99)) {
            refused("street(0, 3, " + x + ")", 0, t -> t.street(0, 3, x) ? 1 : 0);
        }
        for (int corner = 0; corner < 12; corner++) {
            int x = corner;
            refused("street(" + x + ", " + x + ", 5)", 0, t -> t.street(x, x, 5) ? 1 : 0);
        }
    }

    private static void rangesOfWheels() {
        for (int x : outside(0, 2)) {
            refused("wheel(" + x + ", 0, 1, 0)", -1, t -> t.wheel(x, 0, 1, 0));
            refused("insure(" + x + ", 0)", 0, t -> t.insure(x, 0) ? 1 : 0);
            refused("wheeled(" + x + ", 0)", -1, t -> t.wheeled(x, 0));
            refused("tried(" + x + ")", -1, t -> t.tried(x));
        }
        for (int x : outside(0, 3)) {
            refused("wheel(0, " + x + ", 1, 0)", -1, t -> t.wheel(0, x, 1, 0));
            refused("wheeled(0, " + x + ")", -1, t -> t.wheeled(0, x));
        }
        for (int x : outside(1, 9)) {
            refused("wheel(0, 0, " + x + ", 0)", -1, t -> t.wheel(0, 0, x, 0));
        }
        for (int x : outside(-1, 199)) {
            refused("wheel(0, 0, 1, " + x + ")", -1, t -> t.wheel(0, 0, 1, x));
            refused("insure(0, " + x + ")", 0, t -> t.insure(0, x) ? 1 : 0);
        }
    }

    private static void rangesOfTrips() {
        for (int x : outside(0, 2)) {
            refused("trip(" + x + ", 0, 1, 5, 2, 9)", -1, t -> t.trip(x, 0, 1, 5, 2, 9));
        }
        for (int x : outside(0, 3)) {
            refused("trip(0, " + x + ", 1, 5, 2, 9)", -1, t -> t.trip(0, x, 1, 5, 2, 9));
            refused("trip(0, 1, " + x + ", 5, 2, 9)", -1, t -> t.trip(0, 1, x, 5, 2, 9));
        }
        for (int x : outside(0, 719)) {
            refused("trip(0, 0, 1, " + x + ", 2, 9)", -1, t -> t.trip(0, 0, 1, x, 2, 9));
        }
        for (int x : outside(2, 9)) {
            refused("trip(0, 0, 1, 5, " + x + ", 9)", -1, t -> t.trip(0, 0, 1, 5, x, 9));
        }
        for (int x : outside(4, 199)) {
            refused("trip(0, 0, 1, 5, 4, " + x + ")", -1, t -> t.trip(0, 0, 1, 5, 4, x));
        }
        for (int stop = 0; stop < 4; stop++) {
            int x = stop;
            refused("trip from " + x + " to itself", -1, t -> t.trip(0, x, x, 5, 2, 9));
        }
        for (int x : outside(0, 5)) {
            refused("rode(" + x + ")", -1, t -> t.rode(x));
        }
    }

    private static void rangesOfDays() {
        for (int x : outside(0, 197)) {
            refused("next(" + x + ") on DAY 2", -1, t -> t.next(x));
        }
        refused("next(198) on DAY 2", -1, t -> t.next(198));
        refused("next(199) on DAY 2", -1, t -> t.next(199));
        refused("next(200)", -1, t -> t.next(200));
        for (int x : outside(0, 199)) {
            refused("wet(" + x + ")", -1, t -> t.wet(x));
        }
        for (int x : outside(1, 100000)) {
            refused("give(" + x + ")", -1, t -> t.give(x));
        }
        for (int x : outside(0, 7)) {
            refused("end(" + x + ")", 0, t -> t.end(x) ? 1 : 0);
            refused("count(" + x + ")", -1, t -> t.count(x));
        }
        int[] good = {'s', 't', 'o', 'p', ';'};
        for (int x : outside(2, 199)) {
            refusedWithTape("bylaw(" + x + ")", -1000, good, t -> t.bylaw(x));
        }
    }

    private static void rangesOfPersons() {
        int[] good = {0, 60, 0, 130, 0, 35, 0, 3, 0, 20, 0, 1};
        for (int x : outside(0, 11)) {
            refusedWithTape("person(" + x + ", 1, 1)", -1, good, t -> t.person(x, 1, 1));
            refusedWithTape("person(1, " + x + ", 1)", -1, good, t -> t.person(1, x, 1));
        }
        for (int x : outside(0, 9999)) {
            refusedWithTape("person(0, 1, " + x + ")", -1, good, t -> t.person(0, 1, x));
        }
        int[][] wrong = {{0, 601}, {0, 65535}, {1, 720}, {1, 65535}, {2, 9}, {2, 0}, {2, 100}, {2, 256 + 35}, {3, 10},
            {3, 256}, {4, 10001}, {4, 65535}, {5, 10}, {5, 256}, {5, 65535}};
        for (int[] w : wrong) {
            int[] tape = good.clone();
            tape[2 * w[0]] = w[1] >> 8;
            tape[2 * w[0] + 1] = w[1] & 255;
            refusedWithTape("person with " + w[1] + " as number " + w[0], -1, tape, t -> t.person(0, 1, 1));
        }
        for (int size = 0; size < 30; size++) {
            int[] tape = Arrays.copyOf(good, size);
            if (size != 12) {
                refusedWithTape("person by " + size + " bytes", -1, tape, t -> t.person(0, 1, 1));
            }
        }
    }

    private static void wrongTapes() {
        int[][] rows = {{}, new int[201], new int[340], {10}, {254}, {128}, {0, 1, 10}, {255, 254}};
        for (int[] row : rows) {
            refusedWithTape("rain by " + row.length + " bytes", 0, row, t -> t.rain() ? 1 : 0);
        }
        int[][] wheels = {{}, {3}, {255}, {0, 0}, {0, 1, 2, 1}, {0, 1, 2, 3}, {0, 1, 2, 0, 1, 2}, new int[20]};
        for (int[] row : wheels) {
            refusedWithTape("seated by " + row.length + " bytes", -1, row, t -> t.seated(50));
        }
        for (int x : outside(0, 200)) {
            refusedWithTape("seated(" + x + ")", -1, new int[] {0, 1}, t -> t.seated(x));
        }
    }

    /** told that answers NONE was told by no LINE; nothing else is changed. */
    private static void wrongQuestions() {
        for (int[] ask : new int[][] {{0, 5}, {1, 5}, {2, Integer.MAX_VALUE}, {3, Integer.MAX_VALUE}}) {
            for (int x : outside(0, ask[1])) {
                if (ask[0] < 2 || x < 0) {
                    int[] n = {1, 2, 1, 1};
                    n[ask[0]] = x;
                    WalkingTown town = base();
                    DUE.is("told with " + x + " as number " + ask[0], town.told(n[0], n[1], n[2], n[3]), -1);
                    WalkingTown other = base();
                    other.told(0, 0, 0, 0);
                    DUE.is("why", town.why(), -1);
                    alike("told with " + x + " as number " + ask[0], town, other);
                }
            }
        }
        for (int x : outside(0, 3)) {
            refused("of(" + x + ", 0)", THROWN, t -> of(t, x, 0));
        }
        for (int x : outside(0, 6)) {
            refused("of(0, " + x + ")", THROWN, t -> of(t, 0, x));
        }
        for (int x : outside(0, 1)) {
            refused("seatedAt(" + x + ")", -1, t -> t.seatedAt(x));
        }
    }

    private static void full(String name, long due, Call fill, Call call) {
        WalkingTown town = base();
        WalkingTown other = base();
        fill.on(town);
        fill.on(other);
        DUE.is(name, call.on(town), due);
        alike(name, town, other);
    }

    private static long fill(int n, Call call, WalkingTown town) {
        for (int i = 0; i < n; i++) {
            DUE.is("there is room", call.on(town) >= 0, true);
        }
        return 0;
    }

    private static void fullTowns() {
        full("a 31st STREET", 0, t -> fill(26, x -> x.street(0, 1, 99) ? 1 : -1, t), t -> t.street(0, 4, 1) ? 1 : 0);
        full("a ninth STOP", -1, t -> fill(4, x -> x.stop(3), t), t -> t.stop(0));
        full("a 21st WHEEL", -1, t -> fill(17, x -> x.wheel(0, 3, 1, 0), t), t -> t.wheel(0, 0, 1, 0));
        full("an 81st TRIP", -1, t -> fill(74, x -> x.trip(2, 3, 1, 400, 2, 9), t), t -> t.trip(0, 0, 1, 5, 2, 9));
        full("an 11th BY-LAW", -1000, t -> fill(9, x -> Due.law(x, 9, "carry not;"), t), t -> Due.law(t, 2, "stop;"));
        full("an 11th with a FAULT", -1000, t -> fill(9, x -> Due.law(x, 9, "stop;"), t), t -> Due.law(t, 2, "?"));
        full("a 41st PERSON", -1, t -> fill(36, x -> Due.person(x, 0, 4, 9, 70, 99, 9), t),
                t -> Due.person(t, 0, 4, 9, 0, 0, 0));
        full("next behind DAY 199", -1, t -> t.next(197), t -> t.next(1));
    }

    private static void fullTape() {
        for (int kept = 321; kept < 340; kept++) {
            int n = kept;
            full("feed behind " + n + " bytes", -1, t -> {
                fill(16, x -> x.feed(1, 2, 3, 4, 5), t);
                t.end(320);
                fill(1, x -> x.feed(9, 9, 9, 9, 9), t);
                return t.end(n) ? 1 : 0;
            }, t -> t.feed(7, 7, 7, 7, 7));
        }
    }

    private static void secondMorning() {
        full("a second MORNING", -1, t -> t.morning(), t -> t.morning());
        full("TRIED behind the MORNING", -1, t -> t.morning(), t -> t.tried(0));
        full("a second MORNING behind next(0)", -1, t -> t.morning() + t.next(0), t -> t.morning());
        full("a MORNING of DAY 199 twice", -1, t -> t.next(197) + t.morning(), t -> t.morning());
    }

    private static void onlyLooking() {
        refused("tried(0)", 1, t -> t.tried(0));
        refused("tried(1)", 1, t -> t.tried(1));
        refused("tried(2)", 0, t -> t.tried(2));
        refused("next(0)", 2, t -> t.next(0));
        refused("end(7) of 7", 1, t -> t.end(7) ? 1 : 0);
        refused("looking", 0, t -> {
            List<Long> seen = new ArrayList<>();
            look(t, seen);
            return t.why() - t.why();
        });
    }

    /** The same numbers at the ends of their ranges are taken. */
    private static void endsOfRanges() {
        WalkingTown town = base();
        DUE.is("street(0, 11, 1)", town.street(0, 11, 1), true);
        DUE.is("street(11, 0, 99)", town.street(11, 0, 99), true);
        DUE.is("far(0, 11)", town.far(0, 11), 1);
        DUE.is("far(11, 11)", town.far(11, 11), 0);
        DUE.is("stop(0)", town.stop(0), 4);
        DUE.is("stop(11)", town.stop(11), 5);
        DUE.is("wheel(0, 0, 1, -1)", town.wheel(0, 0, 1, -1), 3);
        DUE.is("wheel(2, 5, 9, 199)", town.wheel(2, 5, 9, 199), 4);
        DUE.is("insure(0, -1)", town.insure(0, -1), true);
        DUE.is("insure(4, 199)", town.insure(4, 199), true);
        DUE.is("trip(0, 0, 5, 0, 2, 2)", town.trip(0, 0, 5, 0, 2, 2), 6);
        DUE.is("trip(4, 5, 0, 719, 199, 199)", town.trip(4, 5, 0, 719, 199, 199), 7);
        DUE.is("trip(4, 5, 0, 719, 2, 199)", town.trip(4, 5, 0, 719, 2, 199), 8);
        DUE.is("wet(0)", town.wet(0), 0);
        DUE.is("wet(199)", town.wet(199), 9);
        int had = town.count(6);
        DUE.is("give(1)", town.give(1), had + 1);
        DUE.is("give(100000)", town.give(100000), had + 100001);
        Due.numbers(town, 600, 719, 99, 9, 10000, 9);
        DUE.is("person(11, 0, 9999)", town.person(11, 0, 9999), 4);
        Due.numbers(town, 0, 0, 10, 0, 0, 0);
        DUE.is("person(0, 11, 0)", town.person(0, 11, 0), 5);
        DUE.is("told(0, 0, 0, 0)", town.told(0, 0, 0, 0), 1);
        DUE.is("told(8, 5, MAX, MAX)", town.told(8, 5, Integer.MAX_VALUE, Integer.MAX_VALUE), 0);
        Due.bytes(town, 4);
        DUE.is("seated(0)", town.seated(0), 3);
        Due.bytes(town, 4, 3, 2, 1, 0);
        DUE.is("seated(200)", town.seated(200), 6);
        DUE.is("bylaw(199)", Due.law(town, 199, ""), 0);
        DUE.is("bylaw(2)", Due.law(town, 2, ""), 0);
        DUE.is("next(197)", town.next(197), 199);
    }
}
