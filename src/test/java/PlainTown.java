import java.util.ArrayList;
import java.util.Arrays;
import java.util.List;
import java.util.NoSuchElementException;

/** The document once more, as slowly and literally as it can be written: what WalkingTown is compared with. */
final class PlainTown {
    static final int NEVER = 1 << 28;

    static final class Person {
        int home, work, wage, leaves, begins, age, shoes, purse, lag;
        int came = -1, late, walked, rides, ever;
    }

    static final class Wheel {
        int kind, base, seats, insured, coin;
        int stopped, gone, at;
    }

    static final class Trip {
        int number, wheel, from, to, minute, first, last, told;
        int rode = -1;
    }

    static final class Bylaw {
        int from;
        String text;
    }

    final List<int[]> streets = new ArrayList<>();
    final List<Person> people = new ArrayList<>();
    final List<Integer> stops = new ArrayList<>();
    final List<Wheel> wheels = new ArrayList<>();
    final List<Trip> trips = new ArrayList<>();
    final List<Bylaw> laws = new ArrayList<>();
    int[] rainRow;
    int today, fund, fault, why = -1, led = -1;
    List<Integer> tape = new ArrayList<>();
    int[] seatedAt = new int[0];

    int feed(int... five) {
        if (tape.size() + 20 > 340) return -1;
        for (int number : five) for (int i = 3; i >= 0; i--) tape.add((number >>> (8 * i)) & 255);
        return tape.size();
    }

    boolean end(int n) {
        if (n < 0 || n > tape.size()) return false;
        tape = new ArrayList<>(tape.subList(0, n));
        return true;
    }

    private int[] takeTape() {
        int[] row = new int[tape.size()];
        for (int i = 0; i < row.length; i++) row[i] = tape.get(i);
        tape.clear();
        return row;
    }

    int next(int n) {
        if (n < 0 || n > 199 || today + n > 199) return -1;
        return today += n;
    }

    static boolean corner(int c) {
        return 0 <= c && c <= 11;
    }

    static boolean within(long x, long low, long high) {
        return low <= x && x <= high;
    }

    boolean street(int a, int b, int length) {
        if (streets.size() == 30 || !corner(a) || !corner(b) || a == b || !within(length, 1, 99)) return false;
        streets.add(new int[] {a, b, length});
        return true;
    }

    int length(int a, int b) {
        int[] d = new int[12];
        Arrays.fill(d, NEVER);
        d[a] = 0;
        for (int round = 0; round < 12; round++) {
            for (int[] s : streets) {
                d[s[1]] = Math.min(d[s[1]], d[s[0]] + s[2]);
                d[s[0]] = Math.min(d[s[0]], d[s[1]] + s[2]);
            }
        }
        return Math.min(d[b], NEVER);
    }

    int far(int a, int b) {
        if (!corner(a) || !corner(b)) return -1;
        int length = length(a, b);
        return length == NEVER ? -2 : length;
    }

    int person(int home, int work, int wage) {
        int[] t = takeTape();
        if (people.size() == 40 || t.length != 12 || !corner(home) || !corner(work) || !within(wage, 0, 9999)) return -1;
        int[] n = new int[6];
        for (int i = 0; i < 6; i++) n[i] = 256 * t[2 * i] + t[2 * i + 1];
        if (n[0] > 600 || n[1] > 719 || !within(n[2], 10, 99) || n[3] > 9 || n[4] > 10000 || n[5] > 9) return -1;
        Person p = new Person();
        p.home = home;
        p.work = work;
        p.wage = wage;
        p.leaves = n[0];
        p.begins = n[1];
        p.age = n[2];
        p.shoes = n[3];
        p.purse = n[4] * 10;
        p.lag = n[5];
        people.add(p);
        return people.size() - 1;
    }

    int stop(int corner) {
        if (stops.size() == 8 || !corner(corner)) return -1;
        stops.add(corner);
        return stops.size() - 1;
    }

    int wheel(int kind, int base, int seats, int insured) {
        if (wheels.size() == 20 || !within(kind, 0, 2) || !within(base, 0, stops.size() - 1)
                || !within(seats, 1, 9) || !within(insured, -1, 199)) return -1;
        Wheel w = new Wheel();
        w.kind = kind;
        w.base = base;
        w.seats = seats;
        w.insured = insured;
        w.at = base;
        wheels.add(w);
        return wheels.size() - 1;
    }

    boolean insure(int w, int day) {
        if (!within(w, 0, wheels.size() - 1) || !within(day, -1, 199)) return false;
        wheels.get(w).insured = day;
        return true;
    }

    int trip(int w, int from, int to, int minute, int first, int last) {
        if (trips.size() == 80 || !within(w, 0, wheels.size() - 1) || !within(from, 0, stops.size() - 1)
                || !within(to, 0, stops.size() - 1) || from == to || !within(minute, 0, 719)
                || !within(first, today, 199) || !within(last, first, 199)) return -1;
        Trip t = new Trip();
        t.number = trips.size();
        t.wheel = w;
        t.from = from;
        t.to = to;
        t.minute = minute;
        t.first = first;
        t.last = last;
        t.told = today;
        trips.add(t);
        return t.number;
    }

    boolean rain() {
        int[] t = takeTape();
        if (!within(t.length, 1, 200)) return false;
        for (int b : t) if (b > 9 && b != 255) return false;
        rainRow = t;
        return true;
    }

    int wet(int day) {
        if (!within(day, 0, 199)) return -1;
        if (rainRow == null) return 0;
        if (day >= rainRow.length) return 9;
        if (rainRow[day] != 255) return rainRow[day];
        return day == 0 ? 0 : wet(day - 1);
    }

    int give(int cents) {
        if (!within(cents, 1, 100000)) return -1;
        return fund = Math.min(1000000, fund + cents);
    }

    int bylaw(int from) {
        int[] t = takeTape();
        if (laws.size() == 10 || !within(from, today, 199)) return -1000;
        StringBuilder b = new StringBuilder();
        for (int c : t) b.append((char) c);
        PlainLaw law = new PlainLaw(b.toString());
        fault = law.fault;
        if (fault != 0) return -1 - law.place;
        Bylaw bylaw = new Bylaw();
        bylaw.from = from;
        bylaw.text = b.toString();
        laws.add(bylaw);
        return law.lines.size();
    }

    PlainLaw lawToday() {
        Bylaw latest = null;
        for (Bylaw l : laws) if (l.from <= today && (latest == null || l.from >= latest.from)) latest = l;
        return new PlainLaw(latest == null ? "" : latest.text);
    }

    int[] ask(PlainLaw law, Trip t, int what, int riders, int times) {
        Wheel w = wheels.get(t.wheel);
        boolean ofRiders = what == 1 || what == 3 || what == 4;
        int[] facts = {w.kind == 0 ? 1 : 0, w.kind == 1 ? 1 : 0, w.kind == 2 ? 1 : 0, today <= w.insured ? 1 : 0,
            ofRiders ? riders : 0, w.seats, wet(today), t.minute, today, t.from, t.to, times};
        int[] plain = {1, 0, w.kind == 2 ? 10 : 0, 15, 500, w.kind == 2 ? 0 : 20};
        if (what == 5 && w.kind == 2) return new int[] {0, -1};
        for (int i = 0; i < law.lines.size(); i++) {
            PlainLaw.Line line = law.lines.get(i);
            if (line.what == what && (line.cond == null || line.cond.holds(facts))) return new int[] {line.value, i};
        }
        return new int[] {plain[what], -1};
    }

    int told(int trip, int what, int riders, int times) {
        why = -1;
        if (!within(trip, 0, trips.size() - 1) || !within(what, 0, 5) || riders < 0 || times < 0) return -1;
        int[] answer = ask(lawToday(), trips.get(trip), what, riders, times);
        why = answer[1];
        return answer[0];
    }

    int pace(Person p, int shoes) {
        int pace = 18 + wet(today);
        for (int age = 50; age <= p.age; age += 10) pace++;
        if (shoes == 1) pace += 4;
        if (shoes == 0) pace += 9;
        return pace;
    }

    static int up(int tenths, int pace) {
        return tenths == NEVER ? NEVER : (int) Math.ceil(tenths * pace / 10.0);
    }

    int drive(Trip t) {
        int kind = wheels.get(t.wheel).kind;
        int pace = kind == 1 ? 4 : 3;
        if (wet(today) > 4 && kind != 2) pace++;
        return Math.max(1, up(length(stops.get(t.from), stops.get(t.to)), pace));
    }

    int morning() {
        if (led == today) return -1;
        led = today;
        PlainMorning m = new PlainMorning(this, -1);
        int answer = m.lead();
        m.settle();
        return answer;
    }

    int tried(int w) {
        if (!within(w, 0, wheels.size() - 1) || led == today) return -1;
        return new PlainMorning(this, w).lead();
    }

    int of(int p, int what) {
        if (!within(p, 0, people.size() - 1) || !within(what, 0, 6)) throw new NoSuchElementException();
        Person x = people.get(p);
        return new int[] {x.came, x.late, x.walked, x.rides, x.purse, x.shoes, x.ever}[what];
    }

    int rode(int t) {
        return within(t, 0, trips.size() - 1) ? trips.get(t).rode : -1;
    }

    int wheeled(int w, int what) {
        if (!within(w, 0, wheels.size() - 1) || !within(what, 0, 3)) return -1;
        Wheel x = wheels.get(w);
        return new int[] {x.stopped, x.gone, x.coin, x.at}[what];
    }

    int seated(int minutes) {
        int[] t = takeTape();
        if (!within(minutes, 0, 200) || !within(t.length, 1, 5) || stops.isEmpty()) return -1;
        for (int i = 0; i < t.length; i++) {
            if (t[i] >= wheels.size()) return -1;
            for (int j = 0; j < i; j++) if (t[i] == t[j]) return -1;
        }
        boolean[][] near = new boolean[people.size()][stops.size()];
        for (int p = 0; p < near.length; p++) {
            for (int s = 0; s < stops.size(); s++) {
                near[p][s] = up(length(people.get(p).home, stops.get(s)), pace(people.get(p), people.get(p).shoes)) <= minutes;
            }
        }
        int best = -1;
        int[] put = new int[t.length];
        int all = 1;
        for (int i = 0; i < t.length; i++) all *= stops.size();
        for (int code = 0; code < all; code++) {
            int rest = code;
            for (int k = t.length - 1; k >= 0; k--) {
                put[k] = rest % stops.size();
                rest /= stops.size();
            }
            int got = match(near, t, put);
            if (got > best) {
                best = got;
                seatedAt = put.clone();
            }
        }
        return best;
    }

    /** Persons one by one, each by a chain of changes of seats, if there is one. */
    private int match(boolean[][] near, int[] wheel, int[] put) {
        int[] in = new int[near.length];
        Arrays.fill(in, -1);
        int seated = 0;
        for (int p = 0; p < near.length; p++) if (place(p, near, wheel, put, in, new boolean[wheel.length])) seated++;
        return seated;
    }

    private boolean place(int p, boolean[][] near, int[] wheel, int[] put, int[] in, boolean[] seen) {
        for (int k = 0; k < wheel.length; k++) {
            if (!near[p][put[k]] || seen[k]) continue;
            seen[k] = true;
            int taken = 0;
            for (int q : in) if (q == k) taken++;
            if (taken < wheels.get(wheel[k]).seats) {
                in[p] = k;
                return true;
            }
            for (int q = 0; q < in.length; q++) {
                if (in[q] == k && place(q, near, wheel, put, in, seen)) {
                    in[p] = k;
                    return true;
                }
            }
        }
        return false;
    }

    int seatedAt(int k) {
        return within(k, 0, seatedAt.length - 1) ? seatedAt[k] : -1;
    }

    int count(int what) {
        if (!within(what, 0, 7)) return -1;
        return new int[] {today, people.size(), stops.size(), wheels.size(), trips.size(), laws.size(), fund, tape.size()}[what];
    }
}
