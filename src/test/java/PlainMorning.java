import java.util.ArrayList;
import java.util.List;

/** A MORNING of a PlainTown, with everyone's place in every MINUTE. */
final class PlainMorning {
    enum Doing { HOME, WALKING, WAITING, RIDING, STAYING, WORKING }

    static final class Walker {
        int number;
        PlainTown.Person p;
        Doing doing = Doing.HOME;
        int corner;
        int there;
        PlainTown.Trip goal;
        int wheel = -1;
        int purse;
        int shoes;
        int ever;
        int came = -1;
        int walked;
        int rides;
    }

    static final class Car {
        PlainTown.Wheel w;
        int at;
        boolean driving;
        int comes;
        int stopped;
        boolean gone;
        int coin;
    }

    final PlainTown town;
    final PlainLaw law;
    final List<Walker> walkers = new ArrayList<>();
    final List<Car> cars = new ArrayList<>();
    final List<PlainTown.Trip> today = new ArrayList<>();
    final int[] rode;
    int fund;

    PlainMorning(PlainTown itsTown, int leftOut) {
        town = itsTown;
        law = town.lawToday();
        fund = town.fund;
        rode = new int[town.trips.size()];
        for (PlainTown.Person p : town.people) {
            Walker x = new Walker();
            x.number = walkers.size();
            x.p = p;
            x.purse = p.purse;
            x.shoes = p.shoes;
            x.ever = p.ever;
            walkers.add(x);
        }
        for (PlainTown.Wheel w : town.wheels) {
            Car c = new Car();
            c.w = w;
            c.at = w.base;
            c.coin = w.coin;
            cars.add(c);
        }
        for (PlainTown.Trip t : town.trips) {
            rode[t.number] = -1;
            if (t.first <= town.today && town.today <= t.last && t.wheel != leftOut) today.add(t);
        }
    }

    int lead() {
        for (int minute = 0; minute <= 839; minute++) {
            for (int w = 0; w < cars.size(); w++) come(w, minute);
            for (Walker x : walkers) {
                if (x.p.leaves == minute) choose(x, x.p.home, minute, minute);
                arrive(x, minute);
            }
            for (PlainTown.Trip t : today) if (t.minute == minute) go(t);
            for (Walker x : walkers) {
                if (x.doing == Doing.WAITING && x.goal.minute == minute) {
                    choose(x, town.stops.get(x.goal.from), minute, minute + 1);
                }
            }
        }
        int onTime = 0;
        for (Walker x : walkers) if (x.came >= 0 && x.came <= x.p.begins) onTime++;
        return onTime;
    }

    private void come(int w, int minute) {
        Car c = cars.get(w);
        if (!c.driving || c.comes != minute) return;
        c.driving = false;
        for (Walker x : walkers) if (x.wheel == w) {
            x.wheel = -1;
            choose(x, town.stops.get(c.at), minute, minute);
        }
    }

    private void arrive(Walker x, int minute) {
        if (x.doing != Doing.WALKING || x.there != minute) return;
        if (x.goal == null) {
            x.doing = Doing.WORKING;
            x.came = minute;
        } else {
            x.doing = Doing.WAITING;
        }
    }

    /** All ways are gone through one by one. */
    private int bestFrom(Walker x, int stop, int minute) {
        int best = minute + PlainTown.up(town.length(town.stops.get(stop), x.p.work), town.pace(x.p, x.shoes));
        for (PlainTown.Trip t : today) {
            if (t.from == stop && t.minute >= minute && heard(x, t)) {
                best = Math.min(best, byTrip(x, t));
            }
        }
        return best;
    }

    private int[] known;

    private int byTrip(Walker x, PlainTown.Trip t) {
        if (known[t.number] == 0) {
            boolean way = town.length(town.stops.get(t.from), town.stops.get(t.to)) < PlainTown.NEVER;
            known[t.number] = way ? bestFrom(x, t.to, t.minute + town.drive(t)) : PlainTown.NEVER;
        }
        return known[t.number];
    }

    private boolean heard(Walker x, PlainTown.Trip t) {
        return t.told <= town.today - x.p.lag;
    }

    private void choose(Walker x, int corner, int minute, int earliest) {
        known = new int[town.trips.size()];
        int pace = town.pace(x.p, x.shoes);
        int best = minute + PlainTown.up(town.length(corner, x.p.work), pace);
        PlainTown.Trip first = null;
        for (PlainTown.Trip t : today) {
            int there = minute + PlainTown.up(town.length(corner, town.stops.get(t.from)), pace);
            if (heard(x, t) && t.minute >= earliest && t.minute >= there && byTrip(x, t) < best) {
                best = byTrip(x, t);
                first = t;
            }
        }
        x.goal = first;
        if (best >= PlainTown.NEVER) {
            x.doing = Doing.STAYING;
            return;
        }
        int goal = first == null ? x.p.work : town.stops.get(first.from);
        int length = town.length(corner, goal);
        for (int tenth = 0; tenth < length; tenth++) {
            x.walked++;
            x.ever++;
            if (x.ever % 300 == 0 && x.shoes > 0) x.shoes--;
        }
        x.doing = Doing.WALKING;
        x.there = minute + PlainTown.up(length, pace);
        arrive(x, minute);
    }

    private void go(PlainTown.Trip t) {
        Car c = cars.get(t.wheel);
        boolean taxi = c.w.kind == 2;
        int length = town.length(town.stops.get(t.from), town.stops.get(t.to));
        rode[t.number] = -2;
        if (c.driving || c.at != t.from || c.gone || length >= PlainTown.NEVER) return;
        if (town.ask(law, t, 0, 0, c.stopped)[0] == 0) return;
        int gas = town.ask(law, t, 5, 0, c.stopped)[0];
        if (gas > fund) return;
        fund -= gas;
        int fare = town.ask(law, t, 2, 0, c.stopped)[0];
        List<Walker> line = new ArrayList<>();
        for (Walker x : walkers) if (x.doing == Doing.WAITING && x.goal == t) line.add(x);
        line.sort((a, b) -> a.p.begins != b.p.begins ? a.p.begins - b.p.begins : a.number - b.number);
        List<Walker> riders = new ArrayList<>();
        for (Walker x : line) {
            if (riders.size() < c.w.seats && x.purse >= fare) {
                x.purse -= fare;
                if (taxi) c.coin = Math.min(1000000, c.coin + fare);
                else fund = Math.min(1000000, fund + fare);
                riders.add(x);
            }
        }
        int leaves = t.minute;
        if (town.ask(law, t, 1, riders.size(), c.stopped)[0] == 1) {
            int fine = town.ask(law, t, 4, riders.size(), c.stopped)[0];
            leaves += town.ask(law, t, 3, riders.size(), c.stopped)[0];
            c.stopped++;
            if ((taxi ? c.coin : fund) < fine) {
                c.gone = true;
                return;
            }
            if (taxi) c.coin -= fine;
            else fund -= fine;
        }
        for (Walker x : riders) {
            x.doing = Doing.RIDING;
            x.wheel = t.wheel;
            x.rides++;
        }
        rode[t.number] = riders.size();
        c.driving = true;
        c.at = t.to;
        c.comes = leaves + town.drive(t);
    }

    void settle() {
        town.fund = fund;
        int dock = 0;
        for (PlainLaw.Line line : law.lines) if (line.what == 6) dock = line.value;
        for (Walker x : walkers) {
            x.p.came = x.came;
            x.p.late = x.came < 0 ? 840 - x.p.begins : Math.max(0, x.came - x.p.begins);
            x.p.walked = x.walked;
            x.p.rides = x.rides;
            x.p.purse = Math.min(100000, x.purse + Math.max(0, x.p.wage - x.p.late / 10 * dock));
            x.p.ever = x.ever;
            x.p.shoes = x.shoes;
        }
        for (Car c : cars) {
            c.w.coin = c.coin;
            c.w.stopped = c.stopped;
            c.w.gone = c.gone ? 1 : 0;
            c.w.at = c.at;
        }
        for (PlainTown.Trip t : town.trips) t.rode = rode[t.number];
    }
}
