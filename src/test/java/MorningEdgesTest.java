/** The edges that the document names for MORNINGS (==== 1. and 3., promises 19 to 23), sentence by sentence. */
public final class MorningEdgesTest {
    private static final Due DUE = new Due();

    public static void main(String[] args) {
        wordComesByLag();
        firstAndLastTrip();
        workAtHome();
        roundedOnce();
        awayFromWork();
        gasIsThereOrNot();
        gasByNumbers();
        gasIsTakenAheadOfFares();
        faresHelpTheNext();
        fineIsThereOrNot();
        holds();
        faresAndPurses();
        seats();
        otherStopOfTheCorner();
        neverThere();
        docks();
        timesOfTheDay();
        taxiIsFull();
        carHasNoCoin();
        outInTheLastMinute();
        triedWithGas();
        chosenAnewAndAnew();
        lawOfTheDay();
        daysLeftOut();
        comesAndGoesOn();
        nobodyIsInIt();
        outOfOneThatIsGone();
        theLastTripToo();
        toldInAnyOrder();
        DUE.end();
    }

    private static void person(String what, WalkingTown town, int p, int... due) {
        for (int i = 0; i < due.length; i++) {
            DUE.is(what + ": of(" + p + ", " + i + ")", town.of(p, i), due[i]);
        }
    }

    /** CORNERS 0 .. n in a row, each so far from the next; STOPS with the same numbers. */
    private static WalkingTown row(int n, int length) {
        WalkingTown town = new WalkingTown();
        for (int i = 0; i <= n; i++) {
            town.stop(i);
            if (i > 0) {
                town.street(i - 1, i, length);
            }
        }
        return town;
    }

    /** One WHEEL at STOP 0 of two that are 60 apart (18 MINUTES by car, 108 on foot), and its TRIP in MINUTE 100. */
    private static WalkingTown one(int kind, int seats, int fund, String law) {
        WalkingTown town = row(1, 60);
        town.wheel(kind, 0, seats, -1);
        town.trip(0, 0, 1, 100, 0, 199);
        if (fund > 0) {
            town.give(fund);
        }
        DUE.is("bylaw " + law, Due.law(town, 0, law) >= 0, true);
        return town;
    }

    /** "HEARD of: TRIPS that were told LAG days ahead of TODAY or earlier"; LAG 0 to 9. */
    private static void wordComesByLag() {
        WalkingTown town = row(1, 60);
        town.wheel(0, 0, 9, -1);
        Due.law(town, 0, "gas 0;");
        int[] lags = {0, 1, 2, 3, 4, 5, 6, 8, 9};
        for (int lag : lags) {
            Due.numbers(town, 90, 300, 30, 9, 0, lag);
            town.person(0, 1, 0);
        }
        town.next(3);
        town.trip(0, 0, 1, 100, 3, 30);
        int[] rode = {1, 2, 3, 4, 5, 6, 7, 7, 8, 9, 9};
        for (int days = 0; days < rode.length; days++) {
            town.morning();
            DUE.is("rode " + days + " days behind", town.rode(0), rode[days]);
            for (int p = 0; p < lags.length; p++) {
                DUE.is("LAG " + lags[p] + ", " + days + " days behind", town.of(p, 3), lags[p] <= days ? 1 : 0);
            }
            town.next(1);
        }
        WalkingTown later = row(1, 60);
        later.wheel(0, 0, 9, -1);
        Due.law(later, 0, "gas 0;");
        later.trip(0, 0, 1, 100, 9, 9);
        later.next(9);
        Due.numbers(later, 90, 300, 30, 9, 0, 9);
        later.person(0, 1, 0);
        later.morning();
        DUE.is("what was told ahead of one's coming is heard of", later.rode(0), 1);
    }

    /** A MINUTE 0 to 719; LEAVES 0 to 600. */
    private static void firstAndLastTrip() {
        WalkingTown town = row(1, 99);
        Due.law(town, 0, "gas 0;");
        town.wheel(0, 0, 2, -1);
        town.wheel(0, 0, 2, -1);
        town.trip(0, 0, 1, 0, 0, 0);
        town.trip(1, 0, 1, 719, 0, 0);
        Due.person(town, 0, 1, 0, 0, 30, 0);
        Due.person(town, 0, 1, 0, 1, 180, 0);
        Due.person(town, 0, 1, 0, 600, 719, 0);
        DUE.is("morning()", town.morning(), 2);
        person("in MINUTE 0", town, 0, 30, 0, 0, 1);
        person("a MINUTE too late for it", town, 1, 180, 0, 99, 0);
        person("in MINUTE 719", town, 2, 749, 30, 0, 1);
        DUE.is("rode(0)", town.rode(0), 1);
        DUE.is("rode(1)", town.rode(1), 1);
    }

    /** "a walk of no way takes no MINUTE: one is there at once". */
    private static void workAtHome() {
        WalkingTown town = new WalkingTown();
        Due.person(town, 5, 5, 100, 7, 7, 0);
        Due.person(town, 5, 5, 100, 8, 7, 0);
        Due.person(town, 5, 5, 100, 0, 0, 0);
        Due.person(town, 5, 5, 100, 600, 0, 0);
        DUE.is("morning()", town.morning(), 2);
        person("just when one BEGINS", town, 0, 7, 0, 0, 0, 100, 5, 0);
        person("a MINUTE behind", town, 1, 8, 1, 0, 0, 100, 5, 0);
        person("in MINUTE 0", town, 2, 0, 0, 0, 0, 100, 5, 0);
        person("in MINUTE 600", town, 3, 600, 600, 0, 0, 100, 5, 0);
    }

    /** FAR is rounded once, not STREET by STREET, and a drive takes 1 at least. */
    private static void roundedOnce() {
        WalkingTown town = row(5, 1);
        Due.law(town, 0, "gas 0;");
        town.wheel(0, 0, 9, -1);
        town.wheel(1, 0, 9, -1);
        town.trip(0, 0, 5, 100, 0, 0);
        town.trip(1, 0, 5, 200, 0, 0);
        town.trip(1, 5, 4, 202, 0, 0);
        town.trip(1, 4, 5, 203, 0, 0);
        Due.person(town, 0, 5, 0, 0, 0, 0);
        Due.person(town, 0, 5, 0, 100, 0, 0);
        Due.person(town, 0, 5, 0, 200, 0, 0);
        town.morning();
        person("half a mile on foot", town, 0, 9, 9, 5, 0);
        person("half a mile by car", town, 1, 102, 102, 0, 1);
        person("half a mile by wagon", town, 2, 202, 202, 0, 1);
        DUE.is("a wagon is back in its MINUTE", town.rode(2), 0);
        DUE.is("a tenth takes one MINUTE", town.rode(3), 0);
    }

    /** To a STOP that is farther from WORK, if one is there first that way. */
    private static void awayFromWork() {
        WalkingTown town = row(2, 50);
        Due.law(town, 0, "gas 0;");
        town.wheel(0, 0, 9, -1);
        town.trip(0, 0, 2, 189, 0, 0);
        town.trip(0, 0, 2, 190, 1, 9);
        town.trip(0, 0, 2, 191, 2, 9);
        Due.person(town, 1, 2, 0, 100, 0, 0);
        town.morning();
        person("would be a MINUTE late at the STOP", town, 0, 190, 190, 50, 0);
        town.next(1);
        town.morning();
        person("walking all the way is first", town, 0, 190, 190, 50, 0);
        WalkingTown longer = row(2, 99);
        Due.law(longer, 0, "gas 0;");
        longer.wheel(2, 0, 9, -1);
        longer.trip(0, 0, 2, 119, 0, 0);
        longer.street(0, 1, 10);
        Due.person(longer, 1, 2, 0, 100, 0, 9);
        longer.morning();
        person("back one mile, and by taxi", longer, 0, 152, 152, 10, 1, 80);
    }

    /** ".. or with gas in cents that THE FUND has not (else these are taken from it)". */
    private static void gasIsThereOrNot() {
        int[][] due = {{0, 0, 0}, {19, -2, 19}, {20, 0, 0}, {21, 0, 1}};
        for (int[] d : due) {
            WalkingTown town = one(0, 1, d[0], d[0] == 0 ? "gas 0;" : "");
            town.morning();
            DUE.is("gas with " + d[0], town.rode(0), d[1]);
            DUE.is("THE FUND with " + d[0], town.count(6), d[2]);
            DUE.is("stands or is there", town.wheeled(0, 3), d[1] == 0 ? 1 : 0);
        }
        WalkingTown none = one(1, 1, 0, "gas 1;");
        none.morning();
        DUE.is("a cent that is not there", none.rode(0), -2);
        WalkingTown taxi = one(2, 1, 0, "gas 2000;");
        taxi.morning();
        DUE.is("a TAXI needs none", taxi.rode(0), 0);
        WalkingTown many = one(0, 1, 2000, "gas 2000;");
        many.morning();
        DUE.is("2000 that are there", many.rode(0), 0);
        DUE.is("THE FUND", many.count(6), 0);
    }

    /** "TRIPS of TODAY in this MINUTE, by numbers". */
    private static void gasByNumbers() {
        WalkingTown town = one(0, 1, 39, "");
        town.wheel(1, 1, 1, -1);
        town.trip(1, 1, 0, 100, 0, 0);
        town.trip(1, 1, 0, 99, 1, 1);
        town.morning();
        DUE.is("the lesser number has gas", town.rode(0), 0);
        DUE.is("nothing is left for the other", town.rode(1), -2);
        town.next(1);
        town.give(1);
        town.morning();
        DUE.is("the earlier one has gas", town.rode(2), 0);
        DUE.is("nothing is left for the other", town.rode(0), -2);
        DUE.is("THE FUND", town.count(6), 0);
    }

    private static void gasIsTakenAheadOfFares() {
        WalkingTown town = one(0, 1, 4, "gas 5;fare 10;");
        Due.person(town, 0, 1, 0, 100, 0, 9);
        town.morning();
        DUE.is("fares that would come are not there", town.rode(0), -2);
        person("walks", town, 0, 208, 208, 60, 0, 90);
        DUE.is("THE FUND", town.count(6), 4);
    }

    private static void faresHelpTheNext() {
        for (int turned = 0; turned < 2; turned++) {
            WalkingTown town = row(1, 60);
            town.wheel(0, turned, 1, -1);
            town.wheel(0, 1 - turned, 1, -1);
            town.trip(0, turned, 1 - turned, 100, 0, 0);
            town.trip(1, 1 - turned, turned, 100, 0, 0);
            town.give(20);
            Due.law(town, 0, "fare 20;");
            Due.person(town, 0, 1, 0, 100, 118, 2);
            DUE.is("morning()", town.morning(), 1 - turned);
            DUE.is("with gas", town.rode(0), turned == 0 ? 1 : 0);
            DUE.is("with gas by a fare", town.rode(1), turned == 0 ? 0 : -2);
            DUE.is("THE FUND", town.count(6), 0);
        }
    }

    /** "loses the fine, if it has so much .. if it has not, the TRIP FAILS all the same, the WHEEL is GONE for TODAY". */
    private static void fineIsThereOrNot() {
        int[][] due = {{0, 0, 0, 0}, {0, 1, 1, 0}, {299, 300, 1, 299}, {300, 300, 0, 0}, {301, 300, 0, 1},
            {2000, 2000, 0, 0}};
        for (int[] d : due) {
            WalkingTown town = one(0, 1, d[0], "gas 0;stop if minute=100;hold 0;fine " + d[1] + ";");
            town.trip(0, d[2] == 1 ? 0 : 1, d[2] == 1 ? 1 : 0, 300, 0, 0);
            Due.person(town, 0, 1, 0, 100, 118, 0);
            DUE.is("morning()", town.morning(), 1 - d[2]);
            DUE.is("rode with " + d[0] + " of " + d[1], town.rode(0), d[2] == 1 ? -2 : 1);
            DUE.is("stopped", town.wheeled(0, 0), 1);
            DUE.is("GONE", town.wheeled(0, 1), d[2]);
            DUE.is("THE FUND", town.count(6), d[3]);
            DUE.is("a later TRIP", town.rode(1), d[2] == 1 ? -2 : 0);
            DUE.is("at last", town.wheeled(0, 3), 0);
            person("rides or walks", town, 0, d[2] == 1 ? 208 : 118, d[2] == 1 ? 90 : 0, d[2] == 1 ? 60 : 0, 1 - d[2]);
        }
    }

    /** "the WHEEL leaves hold MINUTES later". */
    private static void holds() {
        int[][] due = {{0, 118}, {1, 119}, {15, 133}, {721, 839}, {722, -1}, {2000, -1}};
        for (int[] d : due) {
            WalkingTown town = one(0, 1, 1000, d[0] == 15 ? "stop;" : "stop;hold " + d[0] + ";");
            Due.person(town, 0, 1, 0, 100, 700, 0);
            town.morning();
            person("held " + d[0], town, 0, d[1], d[1] < 0 ? 140 : Math.max(0, d[1] - 700), 0, 1);
            DUE.is("left all the same", town.rode(0), 1);
            DUE.is("to which it drives", town.wheeled(0, 3), 1);
            DUE.is("not GONE", town.wheeled(0, 1), 0);
            DUE.is("THE FUND", town.count(6), 480);
        }
    }

    /** ".. and one has the fare in one's PURSE (it is paid to THE FUND, or to a TAXI's own)". */
    private static void faresAndPurses() {
        int[][] due = {{0, 0, 1, 0}, {0, 1, 0, 0}, {10, 10, 1, 0}, {10, 11, 0, 10}, {20, 11, 1, 9}, {2000, 2000, 1, 0},
            {1990, 2000, 0, 1990}, {100000, 2000, 1, 98000}};
        for (int kind = 0; kind < 3; kind++) {
            for (int[] d : due) {
                WalkingTown town = one(kind, 1, 0, "gas 0;fare " + d[1] + ";");
                Due.person(town, 0, 1, 0, 100, 124, d[0] / 10);
                DUE.is("fare " + d[1] + " with " + d[0], town.morning(), d[2]);
                DUE.is("rode", town.rode(0), d[2]);
                DUE.is("PURSE", town.of(0, 4), d[3]);
                DUE.is("THE FUND", town.count(6), kind == 2 ? 0 : d[0] - d[3]);
                DUE.is("a TAXI's own", town.wheeled(0, 2), kind == 2 ? d[0] - d[3] : 0);
            }
        }
        WalkingTown plain = one(2, 2, 0, "");
        Due.person(plain, 0, 1, 0, 100, 118, 1);
        Due.person(plain, 0, 1, 0, 100, 118, 0);
        DUE.is("10 of a TAXI, without a LINE", plain.morning(), 1);
        DUE.is("a TAXI's own", plain.wheeled(0, 2), 10);
    }

    /** "get in, by BEGINS, then by number, as long as there are SEATS". */
    private static void seats() {
        for (int seats = 1; seats <= 9; seats++) {
            WalkingTown town = one(0, seats, 20, "");
            for (int p = 0; p < 10; p++) {
                Due.person(town, 0, 1, 0, 90, p < 5 ? 300 : 299 - p % 2, 0);
            }
            town.morning();
            int[] order = {5, 7, 9, 6, 8, 0, 1, 2, 3, 4};
            for (int i = 0; i < 10; i++) {
                DUE.is("place " + i + " of " + seats, town.of(order[i], 3), i < seats ? 1 : 0);
            }
            DUE.is("rode", town.rode(0), seats);
        }
    }

    /** "one FAILS, if its WHEEL does not stand at its STOP": another one of that CORNER is not it. */
    private static void otherStopOfTheCorner() {
        WalkingTown town = row(1, 60);
        int twin = town.stop(0);
        town.wheel(2, twin, 1, -1);
        town.trip(0, 0, 1, 100, 0, 0);
        town.trip(0, twin, 0, 101, 0, 0);
        town.trip(0, 0, 1, 102, 0, 0);
        town.trip(0, 0, 1, 102, 0, 0);
        town.morning();
        DUE.is("at the other STOP of its CORNER", town.rode(0), -2);
        DUE.is("to the other STOP, in one MINUTE", town.rode(1), 0);
        DUE.is("now it is there", town.rode(2), 0);
        DUE.is("and now it has left", town.rode(3), -2);
    }

    /** "LATE .. (who did not come by MINUTE 839: 840 less BEGINS)", "of who did not come, too". */
    private static void neverThere() {
        WalkingTown town = new WalkingTown();
        Due.law(town, 0, "dock 100;");
        Due.person(town, 0, 1, 9999, 0, 0, 0);
        Due.person(town, 0, 1, 9999, 0, 719, 0);
        Due.person(town, 0, 1, 8400, 0, 0, 0);
        Due.person(town, 0, 1, 8399, 600, 0, 5);
        Due.person(town, 0, 1, 9999, 0, 1, 10000);
        DUE.is("morning()", town.morning(), 0);
        person("BEGINS 0", town, 0, -1, 840, 0, 0, 1599, 5, 0);
        person("BEGINS 719", town, 1, -1, 121, 0, 0, 8799, 5, 0);
        person("nothing is left", town, 2, -1, 840, 0, 0, 0, 5, 0);
        person("less than nothing is nothing", town, 3, -1, 840, 0, 0, 50, 5, 0);
        person("a full PURSE", town, 4, -1, 839, 0, 0, 100000, 5, 0);
    }

    /** "WAGE less dock for each whole ten of LATE (0 at least) comes into the PURSE". */
    private static void docks() {
        int[][] due = {{0, 0, 90}, {9, 0, 90}, {10, 1, 59}, {19, 1, 59}, {20, 2, 28}, {29, 2, 28}, {30, 3, 0}, {200, 20, 0}};
        WalkingTown town = new WalkingTown();
        Due.law(town, 0, "dock 31;");
        for (int[] d : due) {
            Due.person(town, 3, 3, 90, 300 + d[0], 300, 1);
        }
        town.morning();
        for (int p = 0; p < due.length; p++) {
            DUE.is("LATE", town.of(p, 1), due[p][0]);
            DUE.is("PURSE of " + due[p][0] + " LATE", town.of(p, 4), due[p][2] + 10);
        }
        WalkingTown none = new WalkingTown();
        Due.person(none, 3, 3, 90, 600, 0, 0);
        none.morning();
        DUE.is("without a LINE dock is 0", none.of(0, 4), 90);
    }

    /** "times: how often it was stopped on that DAY ahead": of that WHEEL, and anew each DAY. */
    private static void timesOfTheDay() {
        WalkingTown town = one(0, 1, 1000, "gas 0;fine 1;hold 0;stop if times<1;");
        town.trip(0, 1, 0, 200, 0, 9);
        town.wheel(1, 0, 1, -1);
        town.trip(1, 0, 1, 300, 0, 9);
        for (int day = 0; day < 3; day++) {
            town.morning();
            DUE.is("the car", town.wheeled(0, 0), 1);
            DUE.is("the wagon has times of its own", town.wheeled(1, 0), 1);
            DUE.is("THE FUND", town.count(6), 1000 - 2 * (day + 1));
            town.next(1);
        }
    }

    /** "THE FUND and a TAXI's own coin have 1000000 cents at most; what is above is lost". */
    private static void taxiIsFull() {
        WalkingTown town = row(7, 99);
        town.wheel(2, 0, 9, -1);
        for (int i = 0; i < 7; i++) {
            town.trip(0, i, i + 1, 30 * i, 0, 199);
        }
        Due.law(town, 0, "fare 2000;");
        Due.law(town, 9, "fare 2000;stop if minute=180;fine 1500;hold 0;");
        for (int p = 0; p < 9; p++) {
            Due.person(town, 0, 7, 9999, 0, 210, 10000);
        }
        for (int day = 0; day < 9; day++) {
            DUE.is("morning()", town.morning(), 9);
            DUE.is("its own coin", town.wheeled(0, 2), Math.min(1000000, 126000 * (day + 1)));
            DUE.is("PURSE", town.of(8, 4), 100000 - 4001 * (day + 1));
            town.next(1);
        }
        town.morning();
        DUE.is("the fine is taken from what it has at most", town.wheeled(0, 2), 998500);
        DUE.is("THE FUND", town.count(6), 0);
    }

    /** "2 a TAXI's own coin (0 for others ..)". */
    private static void carHasNoCoin() {
        for (int kind = 0; kind < 2; kind++) {
            WalkingTown town = one(kind, 1, 20, "fare 30;");
            Due.person(town, 0, 1, 0, 100, 300, 9);
            town.morning();
            DUE.is("rode", town.rode(0), 1);
            DUE.is("no coin of its own", town.wheeled(0, 2), 0);
            DUE.is("THE FUND", town.count(6), 30);
        }
    }

    /** "A MORNING of TODAY: MINUTES 0 to 839": one who gets out in 839 sets out, but is not there. */
    private static void outInTheLastMinute() {
        for (int later = 0; later < 2; later++) {
            WalkingTown town = row(2, 99);
            town.wheel(0, 0, 1, -1);
            town.trip(0, 0, 1, 700, 0, 0);
            town.give(520);
            Due.law(town, 0, "stop;hold " + (109 + later) + ";");
            Due.person(town, 0, 2, 9, 600, 719, 0);
            town.morning();
            person("out in " + (839 + later), town, 0, -1, 121, later == 0 ? 99 : 0, 1, 9, 5, later == 0 ? 99 : 0);
            DUE.is("left", town.rode(0), 1);
            DUE.is("to which it drives", town.wheeled(0, 3), 1);
        }
    }

    /** "what would come of the MORNING of TODAY, were a WHEEL's TRIPS of TODAY left out: nothing is changed". */
    private static void triedWithGas() {
        WalkingTown town = one(0, 1, 20, "");
        town.wheel(0, 0, 2, -1);
        town.trip(1, 0, 1, 110, 0, 199);
        Due.person(town, 0, 1, 0, 100, 128, 0);
        Due.person(town, 0, 1, 0, 105, 128, 0);
        Due.person(town, 0, 1, 0, 20, 128, 0);
        for (int day = 0; day < 2; day++) {
            DUE.is("gas for the second car", town.tried(0), 3);
            DUE.is("the one seat of the first car", town.tried(1), 1);
            DUE.is("no such WHEEL", town.tried(2), -1);
            DUE.is("gas for the first alone", town.morning(), 1);
            DUE.is("behind the MORNING", town.tried(0), -1);
            DUE.is("rode(1)", town.rode(1), -2);
            town.next(1);
            town.give(20);
        }
    }

    /** "Those who waited for a TRIP of this MINUTE and are not in it CHOOSE": behind that MINUTE, time and again. */
    private static void chosenAnewAndAnew() {
        WalkingTown town = one(2, 1, 0, "");
        for (int minute = 110; minute <= 130; minute += 10) {
            town.wheel(2, 0, 1, -1);
            town.trip(minute / 10 - 10, 0, 1, minute, 0, 0);
        }
        town.wheel(2, 0, 1, -1);
        town.trip(4, 0, 1, 220, 0, 0);
        town.trip(4, 0, 1, 219, 1, 1);
        Due.person(town, 0, 1, 0, 100, 0, 0);
        town.morning();
        person("without a cent", town, 0, 238, 238, 60, 0, 0);
        for (int t = 0; t < 4; t++) {
            DUE.is("left without", town.rode(t), 0);
        }
        DUE.is("walking is as soon as 220", town.rode(4), 0);
        DUE.is("none of TODAY", town.rode(5), -1);
    }

    private static void lawOfTheDay() {
        WalkingTown town = one(0, 1, 1000, "carry not;");
        Due.law(town, 1, "gas 7;");
        Due.law(town, 3, "carry not if not insured;gas 9;");
        int[] rode = {-2, 0, 0, -2, 0, 0, -2};
        int[] fund = {1000, 993, 986, 986, 977, 968, 968};
        for (int day = 0; day < rode.length; day++) {
            if (day == 4) {
                town.insure(0, 5);
            }
            town.morning();
            DUE.is("rode on DAY " + day, town.rode(0), rode[day]);
            DUE.is("THE FUND on DAY " + day, town.count(6), fund[day]);
            town.next(1);
        }
    }

    /** "A MORNING can be gone through once each DAY"; DAYS may go by without one. */
    private static void daysLeftOut() {
        WalkingTown town = row(1, 10);
        Due.person(town, 0, 1, 5, 100, 118, 0);
        int[] days = {0, 1, 7, 198, 199};
        for (int i = 0; i < days.length; i++) {
            town.next(days[i] - town.count(0));
            DUE.is("morning on DAY " + days[i], town.morning(), 1);
            DUE.is("again", town.morning(), -1);
            DUE.is("PURSE", town.of(0, 4), 5 * (i + 1));
            DUE.is("all WALKED", town.of(0, 6), 10 * (i + 1));
            DUE.is("WALKED", town.of(0, 2), 10);
        }
    }

    /** "WHEELS that come are at the STOP": in time for a TRIP of that MINUTE, and with who changes there. */
    private static void comesAndGoesOn() {
        for (int sooner = 0; sooner < 2; sooner++) {
            WalkingTown town = row(2, 60);
            town.wheel(2, 0, 1, -1);
            town.trip(0, 0, 1, 100, 0, 0);
            town.trip(0, 1, 2, 118 - sooner, 0, 0);
            Due.person(town, 0, 2, 0, 100, 136, 2);
            DUE.is("morning()", town.morning(), 1 - sooner);
            DUE.is("the first", town.rode(0), 1);
            DUE.is("the second", town.rode(1), sooner == 0 ? 1 : -2);
            person("two TRIPS of one TAXI", town, 0, sooner == 0 ? 136 : 226, sooner == 0 ? 0 : 90,
                    sooner == 0 ? 0 : 60, 2 - sooner, 10 * sooner);
        }
    }

    /** "riders: how many are in it (0, where it is asked whether it may carry, and of fare and gas)". */
    private static void nobodyIsInIt() {
        WalkingTown town = one(0, 3, 100, "carry not if riders>0;gas 1 if riders>0;gas 7;fare 1 if riders>0;fare 10;"
                + "stop if riders=2;fine 3 if riders<2;fine 40 if riders=2;hold 1 if not riders=2;hold 5;");
        Due.person(town, 0, 1, 0, 100, 300, 9);
        Due.person(town, 0, 1, 0, 100, 300, 9);
        town.morning();
        DUE.is("rode", town.rode(0), 2);
        person("held 5", town, 0, 123, 0, 0, 1, 80);
        person("held 5", town, 1, 123, 0, 0, 1, 80);
        DUE.is("THE FUND", town.count(6), 100 - 7 + 20 - 40);
    }

    /** Who got out of a WHEEL that is GONE is in none: another one that comes leaves them where they are. */
    private static void outOfOneThatIsGone() {
        WalkingTown town = row(2, 60);
        town.wheel(2, 2, 1, -1);
        town.wheel(2, 0, 1, -1);
        town.trip(0, 2, 1, 101, 0, 0);
        town.trip(1, 0, 1, 100, 0, 0);
        Due.law(town, 0, "stop if minute=100;fine 11;");
        Due.person(town, 0, 1, 0, 100, 300, 9);
        town.morning();
        DUE.is("GONE", town.wheeled(1, 1), 1);
        DUE.is("the other one", town.rode(0), 0);
        DUE.is("is there", town.wheeled(0, 3), 1);
        person("walks", town, 0, 208, 0, 60, 0, 80);
    }

    /** One goes by the first TRIP for the sake of the second, though that is the last of all TRIPS. */
    private static void theLastTripToo() {
        WalkingTown town = row(2, 60);
        Due.law(town, 0, "gas 0;");
        town.wheel(1, 0, 1, -1);
        town.wheel(0, 0, 1, -1);
        town.wheel(0, 1, 1, -1);
        town.trip(0, 0, 2, 12, 0, 9);
        town.trip(1, 0, 1, 10, 0, 9);
        town.trip(2, 1, 2, 40, 0, 0);
        town.trip(2, 1, 2, 42, 1, 1);
        town.trip(2, 1, 2, 43, 2, 2);
        Due.person(town, 0, 2, 0, 10, 700, 0);
        town.morning();
        person("by two in 58", town, 0, 58, 0, 0, 2);
        town.next(1);
        town.morning();
        person("in 60 either way: the least first number", town, 0, 60, 0, 0, 1);
        DUE.is("the wagon", town.rode(0), 1);
        town.next(1);
        town.morning();
        person("the wagon is first", town, 0, 60, 0, 0, 1);
    }

    /** Four TRIPS one behind the other, and two that lead astray, told in all orders. */
    private static void toldInAnyOrder() {
        int[][] trips = {{0, 0, 1, 50}, {1, 1, 2, 80}, {2, 2, 3, 111}, {3, 3, 4, 150}, {4, 0, 4, 71}, {5, 1, 3, 97}};
        int[] order = new int[6];
        for (int code = 0; code < 720; code++) {
            int rest = code;
            boolean[] told = new boolean[6];
            WalkingTown town = row(4, 90);
            Due.law(town, 0, "gas 0;");
            for (int[] t : trips) {
                town.wheel(0, t[1], 1, -1);
            }
            for (int i = 0; i < 6; i++) {
                order[i] = nth(told, rest % (6 - i));
                rest /= 6 - i;
                int[] t = trips[order[i]];
                town.trip(t[0], t[1], t[2], t[3], 0, 0);
            }
            Due.person(town, 0, 4, 0, 50, 700, 0);
            town.morning();
            person("order " + code, town, 0, 177, 0, 0, 4);
            for (int i = 0; i < 6; i++) {
                DUE.is("TRIP " + order[i], town.rode(i), order[i] < 4 ? 1 : 0);
            }
        }
    }

    private static int nth(boolean[] told, int n) {
        int left = n;
        for (int i = 0; i < told.length; i++) {
            if (!told[i] && left-- == 0) {
                told[i] = true;
                return i;
            }
        }
        return 0;
    }
}
