/** Promises 19 to 23: mornings, what came of them for persons, trips and wheels, and what is TRIED. */
public final class MorningTest {
    private static final Due DUE = new Due();

    public static void main(String[] args) {
        onFoot();
        pace();
        noWay();
        oncePerDay();
        wages();
        shoes();
        shoesWornOnTheWay();
        shoesWornTwice();
        shoesWornByDays();
        setOutIsWalked();
        riding();
        likeWays();
        drivingTimes();
        likeCorners();
        changesAtOneStop();
        changing();
        heldAndMissed();
        gone();
        taxis();
        taxiFined();
        seatsByBegins();
        noFare();
        hearing();
        failing();
        oneMinute();
        afterTheEnd();
        tried();
        noSuch();
        stoppedTimes();
        fundIsFull();
        latestMorning();
        lastMinuteOnFoot();
        manyWays();
        fullTown();
        fullTownStopped();
        DUE.end();
    }

    private static void person(String what, WalkingTown town, int p, int... due) {
        for (int i = 0; i < due.length; i++) {
            DUE.is(what + ": of(" + p + ", " + i + ")", town.of(p, i), due[i]);
        }
    }

    /** CORNERS 0 .. n in a row, each so far from the next; STOPS with the same numbers. */
    private static WalkingTown row(int n, int length) {
        WalkingTown town = new WalkingTown();
        for (int i = 0; i <= n; i++) {
            town.stop(i);
            if (i > 0) {
                town.street(i - 1, i, length);
            }
        }
        return town;
    }

    private static void onFoot() {
        WalkingTown town = row(1, 10);
        Due.person(town, 0, 1, 100, 100, 118, 0);
        Due.person(town, 0, 1, 100, 100, 117, 0);
        Due.person(town, 0, 1, 100, 600, 0, 0);
        Due.person(town, 1, 1, 100, 0, 0, 0);
        DUE.is("morning()", town.morning(), 2);
        person("on time", town, 0, 118, 0, 10, 0, 100, 5, 10);
        person("late", town, 1, 118, 1, 10, 0, 100, 5, 10);
        person("later", town, 2, 618, 618, 10, 0, 100, 5, 10);
        person("at home", town, 3, 0, 0, 0, 0, 100, 5, 0);
    }

    private static int minutes(int length, int age, int shoes, int rain) {
        WalkingTown town = row(1, length);
        Due.bytes(town, rain);
        town.rain();
        Due.numbers(town, 0, 0, age, shoes, 0, 0);
        town.person(0, 1, 0);
        town.morning();
        return town.of(0, 0);
    }

    private static void pace() {
        DUE.is("a mile", minutes(10, 30, 5, 0), 18);
        DUE.is("a tenth", minutes(1, 30, 5, 0), 2);
        DUE.is("99 tenths", minutes(99, 30, 5, 0), 179);
        DUE.is("5 tenths", minutes(5, 30, 5, 0), 9);
        DUE.is("AGE 40", minutes(10, 40, 5, 0), 18);
        DUE.is("AGE 49", minutes(10, 49, 5, 0), 18);
        DUE.is("AGE 50", minutes(10, 50, 5, 0), 19);
        DUE.is("AGE 59", minutes(10, 59, 5, 0), 19);
        DUE.is("AGE 60", minutes(10, 60, 5, 0), 20);
        DUE.is("AGE 99", minutes(10, 99, 5, 0), 23);
        DUE.is("AGE 10", minutes(10, 10, 5, 0), 18);
        DUE.is("SHOES 2", minutes(10, 30, 2, 0), 18);
        DUE.is("SHOES 1", minutes(10, 30, 1, 0), 22);
        DUE.is("SHOES 0", minutes(10, 30, 0, 0), 27);
        DUE.is("RAIN 1", minutes(10, 30, 5, 1), 19);
        DUE.is("RAIN 9", minutes(10, 30, 5, 9), 27);
        DUE.is("all of it", minutes(10, 99, 0, 9), 41);
    }

    private static void noWay() {
        WalkingTown town = row(1, 10);
        town.stop(5);
        town.wheel(2, 0, 3, -1);
        town.trip(0, 0, 1, 100, 0, 9);
        town.trip(0, 1, 2, 200, 0, 9);
        Due.person(town, 0, 5, 40, 0, 700, 7);
        Due.law(town, 0, "dock 3;");
        DUE.is("morning()", town.morning(), 0);
        person("who stays", town, 0, -1, 140, 0, 0, 70, 5, 0);
        DUE.is("a trip to what is no way", town.rode(1), -2);
    }

    private static void oncePerDay() {
        WalkingTown town = row(1, 10);
        town.wheel(0, 0, 1, -1);
        Due.person(town, 0, 1, 50, 0, 50, 0);
        DUE.is("morning()", town.morning(), 1);
        DUE.is("again", town.morning(), -1);
        town.next(0);
        DUE.is("still the day", town.morning(), -1);
        DUE.is("tried(0)", town.tried(0), -1);
        DUE.is("purse", town.of(0, 4), 50);
        town.next(1);
        DUE.is("tried(0)", town.tried(0), 1);
        DUE.is("the next day", town.morning(), 1);
        DUE.is("purse", town.of(0, 4), 100);
        DUE.is("all walked", town.of(0, 6), 20);
    }

    private static void wages() {
        WalkingTown town = row(1, 10);
        Due.law(town, 0, "dock 40;");
        Due.person(town, 0, 1, 100, 100, 109, 0);
        Due.person(town, 0, 1, 100, 100, 108, 0);
        Due.person(town, 0, 1, 100, 111, 109, 0);
        Due.person(town, 0, 1, 100, 121, 109, 0);
        Due.person(town, 0, 1, 9999, 0, 700, 9000);
        Due.person(town, 0, 1, 9999, 0, 700, 9001);
        Due.person(town, 0, 7, 9999, 0, 719, 0);
        town.morning();
        person("9 late", town, 0, 118, 9, 10, 0, 100);
        person("10 late", town, 1, 118, 10, 10, 0, 60);
        person("20 late", town, 2, 129, 20, 10, 0, 20);
        person("30 late", town, 3, 139, 30, 10, 0, 0);
        DUE.is("under the most", town.of(4, 4), 99999);
        DUE.is("at the most", town.of(5, 4), 100000);
        person("who did not come", town, 6, -1, 121, 0, 0, 9999 - 480);
    }

    private static void shoes() {
        WalkingTown town = new WalkingTown();
        int[] lengths = {99, 99, 99, 2, 1};
        for (int i = 0; i < lengths.length; i++) {
            town.street(i, i + 1, lengths[i]);
        }
        int[] work = {5, 4, 5, 5};
        int[] had = {9, 9, 1, 0};
        for (int i = 0; i < work.length; i++) {
            Due.numbers(town, 0, 700, 30, had[i], 0, 0);
            town.person(0, work[i], 0);
        }
        int[][] due = {{8, 9, 0, 0}, {7, 8, 0, 0}, {6, 7, 0, 0}};
        for (int day = 0; day < due.length; day++) {
            town.morning();
            town.next(1);
            for (int p = 0; p < work.length; p++) {
                DUE.is("SHOES of " + p + " behind day " + day, town.of(p, 5), due[day][p]);
            }
        }
        DUE.is("all walked", town.of(1, 6), 897);
        DUE.is("in SHOES 1 at first, then without", town.of(2, 0), 810);
    }

    /** HOME at 0, and a STOP so far from it as told; WORK a mile (or two) behind it, and a TRIP there in MINUTE 540. */
    private static WalkingTown longWay(int toStop, int wheelAt, int cents) {
        WalkingTown town = new WalkingTown();
        int[] lengths = {99, 99, 99, toStop - 297, 10, 10};
        for (int i = 0; i < lengths.length; i++) {
            town.street(i, i + 1, lengths[i]);
        }
        for (int corner = 4; corner <= 6; corner++) {
            town.stop(corner);
        }
        town.wheel(0, wheelAt, 4, -1);
        town.wheel(0, 2, 4, -1);
        town.trip(0, 0, 1, 540, 0, 9);
        if (cents > 0) {
            town.give(cents);
        }
        return town;
    }

    private static void shod(WalkingTown town, int work, int begins, int shoes) {
        Due.numbers(town, 0, begins, 30, shoes, 0, 0);
        town.person(0, work, 0);
    }

    private static void shoesWornOnTheWay() {
        WalkingTown town = longWay(300, 1, 0);
        shod(town, 5, 562, 2);
        shod(town, 5, 561, 2);
        shod(town, 5, 558, 3);
        DUE.is("on time in worn SHOES", town.tried(1), 2);
        DUE.is("nothing is worn that was tried", town.of(0, 5), 2);
        DUE.is("tried again", town.tried(1), 2);
        DUE.is("morning()", town.morning(), 2);
        person("a trip fails", town, 0, 562, 0, 310, 0, 0, 1, 310);
        person("one late", town, 1, 562, 1, 310, 0, 0, 1, 310);
        person("SHOES 2 go as well as 3", town, 2, 558, 0, 310, 0, 0, 2, 310);
        WalkingTown nearer = longWay(299, 1, 0);
        shod(nearer, 5, 700, 2);
        nearer.morning();
        person("one tenth less", nearer, 0, 558, 0, 309, 0, 0, 1, 309);
        WalkingTown ridden = longWay(300, 0, 20);
        shod(ridden, 6, 700, 2);
        ridden.morning();
        person("gets out in worn SHOES", ridden, 0, 565, 0, 310, 1, 0, 1, 310);
        WalkingTown missed = longWay(300, 1, 0);
        missed.trip(1, 1, 2, 560, 0, 9);
        shod(missed, 6, 700, 2);
        shod(missed, 6, 700, 3);
        missed.morning();
        person("too slow for the next trip", missed, 0, 584, 0, 320, 0);
        person("in time for it", missed, 1, 578, 0, 320, 0, 0, 2, 320);
    }

    /** 300 to one STOP, and a way of 300 more behind it. */
    private static void shoesWornTwice() {
        WalkingTown town = new WalkingTown();
        int[] lengths = {99, 99, 99, 3, 99, 99, 99, 3, 10};
        for (int i = 0; i < lengths.length; i++) {
            town.street(i, i + 1, lengths[i]);
        }
        town.stop(4);
        town.stop(8);
        town.wheel(2, 1, 4, -1);
        town.trip(0, 0, 1, 600, 0, 9);
        for (int shoes = 0; shoes < 4; shoes++) {
            Due.numbers(town, 0, 719, 30, shoes, 9, 0);
            town.person(0, 9, 0);
        }
        town.morning();
        int[] left = {0, 0, 0, 1};
        for (int p = 0; p < left.length; p++) {
            person("worn twice", town, p, -1, 121, 610, 0, 90, left[p], 610);
        }
    }

    /** 90 a DAY; the fourth DAY's walk to the STOP makes 307 of 270. */
    private static void shoesWornByDays() {
        WalkingTown town = new WalkingTown();
        town.street(0, 1, 37);
        town.street(1, 2, 53);
        town.stop(1);
        town.stop(2);
        town.wheel(0, 1, 1, -1);
        town.trip(0, 0, 1, 218, 0, 9);
        Due.numbers(town, 132, 275, 23, 1, 0, 0);
        town.person(0, 2, 0);
        int[] came = {335, 335, 335, 362, 375};
        int[] left = {1, 1, 1, 0, 0};
        for (int day = 0; day < came.length; day++) {
            town.morning();
            DUE.is("came on DAY " + day, town.of(0, 0), came[day]);
            DUE.is("SHOES on DAY " + day, town.of(0, 5), left[day]);
            town.next(1);
        }
    }

    private static void setOutIsWalked() {
        WalkingTown town = row(5, 99);
        Due.person(town, 0, 5, 7, 0, 719, 0);
        town.morning();
        person("still walking", town, 0, -1, 121, 495, 0, 7, 4, 495);
        WalkingTown far = row(7, 99);
        far.street(7, 8, 99);
        Due.person(far, 0, 8, 7, 0, 719, 0);
        far.morning();
        DUE.is("792 are two whole 300", far.of(0, 5), 3);
    }

    private static void riding() {
        WalkingTown town = row(2, 50);
        town.wheel(0, 0, 2, -1);
        town.give(20);
        town.trip(0, 0, 1, 110, 0, 9);
        Due.person(town, 0, 2, 0, 100, 300, 0);
        Due.person(town, 0, 1, 0, 110, 125, 0);
        Due.person(town, 0, 1, 0, 111, 125, 0);
        DUE.is("morning()", town.morning(), 2);
        person("rides, then walks", town, 0, 215, 0, 50, 1);
        person("leaves in the minute of the trip", town, 1, 125, 0, 0, 1);
        person("too late for it", town, 2, 201, 76, 50, 0);
        DUE.is("rode(0)", town.rode(0), 2);
        DUE.is("gas is paid", town.count(6), 0);
        DUE.is("wheeled(0, 3)", town.wheeled(0, 3), 1);
        town.next(1);
        DUE.is("without gas", town.morning(), 1);
        DUE.is("rode(0)", town.rode(0), -2);
        person("failed at 110, walks all the way", town, 0, 290, 0, 100, 0);
        DUE.is("wheeled(0, 3)", town.wheeled(0, 3), 0);
    }

    private static void likeWays() {
        WalkingTown town = row(1, 10);
        town.give(500);
        town.wheel(0, 0, 9, -1);
        town.wheel(0, 0, 9, -1);
        town.wheel(2, 0, 9, -1);
        town.trip(0, 0, 1, 115, 0, 0);
        town.trip(0, 0, 1, 114, 1, 1);
        town.trip(2, 0, 1, 114, 2, 2);
        town.trip(1, 0, 1, 114, 2, 2);
        Due.person(town, 0, 1, 0, 100, 117, 0);
        town.morning();
        person("walking is as fast", town, 0, 118, 1, 10, 0);
        town.next(1);
        town.morning();
        person("riding is faster", town, 0, 117, 0, 0, 1);
        town.next(1);
        town.morning();
        DUE.is("the least number, and no fare for it", town.rode(2), 0);
        person("failed in 114, walks", town, 0, 132, 15, 10, 0);
        DUE.is("the other one of that minute", town.rode(3), 0);
    }

    private static int driving(int kind, int length, int rain) {
        WalkingTown town = row(1, length);
        town.give(1000);
        Due.bytes(town, rain);
        town.rain();
        town.wheel(kind, 0, 1, -1);
        town.trip(0, 0, 1, 100, 0, 0);
        Due.person(town, 0, 1, 0, 100, 0, 10);
        town.morning();
        DUE.is("one rode", town.rode(0), 1);
        return town.of(0, 0) - 100;
    }

    private static void drivingTimes() {
        DUE.is("a car", driving(0, 50, 0), 15);
        DUE.is("a car", driving(0, 51, 0), 16);
        DUE.is("a wagon", driving(1, 50, 0), 20);
        DUE.is("a taxi", driving(2, 50, 0), 15);
        DUE.is("a car in RAIN 4", driving(0, 50, 4), 15);
        DUE.is("a car in RAIN 5", driving(0, 50, 5), 20);
        DUE.is("a wagon in RAIN 5", driving(1, 50, 5), 25);
        DUE.is("a taxi in RAIN 9", driving(2, 50, 9), 15);
        DUE.is("a tenth takes 1", driving(0, 1, 0), 1);
    }

    private static void likeCorners() {
        WalkingTown town = row(1, 50);
        int twin = town.stop(0);
        town.wheel(2, 0, 1, -1);
        town.wheel(2, twin, 1, -1);
        town.trip(0, 0, twin, 99, 0, 0);
        town.trip(0, twin, 1, 101, 0, 0);
        town.trip(1, twin, 1, 100, 0, 0);
        Due.person(town, 0, 1, 0, 98, 0, 10);
        Due.person(town, 0, 1, 0, 100, 0, 10);
        town.morning();
        person("by two trips, the first of which has the least number", town, 0, 115, 115, 0, 2, 80);
        person("waits at the other STOP of that CORNER", town, 1, 116, 116, 0, 1, 90);
        DUE.is("from STOP to STOP at one CORNER", town.rode(0), 1);
        DUE.is("is there a minute later", town.rode(1), 1);
        DUE.is("the one seat is taken", town.rode(2), 1);
        DUE.is("wheeled(0, 3)", town.wheeled(0, 3), 1);
    }

    /** TRIPS go on from the STOP to which the one ahead drove, not from another STOP of its CORNER. */
    private static void changesAtOneStop() {
        for (int changes = 0; changes < 2; changes++) {
            WalkingTown town = row(2, 50);
            int twin = town.stop(1);
            int from = changes == 1 ? 1 : twin;
            town.wheel(2, 0, 1, -1);
            town.wheel(2, from, 1, -1);
            town.wheel(2, 0, 1, -1);
            town.trip(0, 0, 1, 10, 0, 0);
            town.trip(1, from, 2, 30, 0, 0);
            town.trip(2, 0, 2, 40, 0, 0);
            Due.person(town, 0, 2, 0, 5, 700, 10);
            town.morning();
            person("STOPS of one CORNER", town, 0, changes == 1 ? 45 : 70, 0, 0, changes == 1 ? 2 : 1);
            DUE.is("the first of two TRIPS", town.rode(0), changes);
            DUE.is("the second", town.rode(1), changes);
            DUE.is("the one all the way", town.rode(2), 1 - changes);
        }
    }

    private static void changing() {
        WalkingTown town = row(3, 99);
        town.give(500);
        town.wheel(0, 0, 1, -1);
        town.wheel(1, 1, 1, -1);
        town.wheel(0, 2, 1, -1);
        town.trip(2, 2, 3, 170, 0, 0);
        town.trip(1, 1, 2, 130, 0, 0);
        town.trip(0, 0, 1, 100, 0, 0);
        Due.person(town, 0, 3, 0, 0, 200, 0);
        DUE.is("morning()", town.morning(), 1);
        person("three trips, each in the minute in which one is there", town, 0, 200, 0, 0, 3);
        DUE.is("three times gas", town.count(6), 440);
        WalkingTown twin = row(2, 99);
        int other = twin.stop(1);
        twin.give(500);
        twin.wheel(0, 0, 1, -1);
        twin.wheel(0, other, 1, -1);
        twin.trip(0, 0, 1, 100, 0, 0);
        twin.trip(1, other, 2, 140, 0, 0);
        Due.person(twin, 0, 2, 0, 0, 719, 0);
        twin.morning();
        person("no way by two STOPS, but a new one where one gets out", twin, 0, 170, 0, 0, 2);
    }

    private static void heldAndMissed() {
        WalkingTown town = row(2, 60);
        town.give(1000);
        town.wheel(0, 0, 1, -1);
        town.wheel(0, 1, 1, -1);
        town.trip(0, 0, 1, 100, 0, 9);
        town.trip(1, 1, 2, 118, 0, 9);
        town.trip(0, 0, 1, 105, 0, 9);
        town.trip(0, 1, 0, 127, 0, 9);
        town.trip(0, 1, 0, 128, 0, 9);
        Due.law(town, 0, "stop if riders=1 and from=0;hold 10;fine 300;");
        Due.person(town, 0, 2, 0, 100, 140, 0);
        DUE.is("tried(1)", town.tried(1), 0);
        DUE.is("morning()", town.morning(), 0);
        person("walks from where it came too late", town, 0, 236, 96, 60, 1);
        DUE.is("rode(0)", town.rode(0), 1);
        DUE.is("rode(1)", town.rode(1), 0);
        DUE.is("one that is held has left", town.rode(2), -2);
        DUE.is("not yet there", town.rode(3), -2);
        DUE.is("there", town.rode(4), 0);
        DUE.is("stopped", town.wheeled(0, 0), 1);
        DUE.is("not gone", town.wheeled(0, 1), 0);
        DUE.is("THE FUND", town.count(6), 1000 - 300 - 3 * 20);
    }

    private static void gone() {
        WalkingTown town = row(1, 60);
        town.wheel(0, 0, 2, -1);
        town.wheel(1, 0, 2, -1);
        town.give(59);
        Due.law(town, 0, "stop if car;fine 50 if riders=1;fine 0;gas 20;fare 10;");
        town.trip(0, 0, 1, 100, 0, 9);
        town.trip(0, 0, 1, 110, 0, 9);
        town.trip(1, 0, 1, 120, 0, 9);
        Due.person(town, 0, 1, 5, 100, 300, 3);
        DUE.is("morning()", town.morning(), 1);
        DUE.is("failed", town.rode(0), -2);
        DUE.is("failed, gone", town.rode(1), -2);
        DUE.is("the wagon", town.rode(2), 1);
        DUE.is("stopped", town.wheeled(0, 0), 1);
        DUE.is("gone", town.wheeled(0, 1), 1);
        DUE.is("at its STOP", town.wheeled(0, 3), 0);
        person("paid twice", town, 0, 144, 0, 0, 1, 15);
        DUE.is("THE FUND", town.count(6), 59 - 20 + 10 - 20 + 10);
        town.next(1);
        town.give(1);
        DUE.is("morning()", town.morning(), 1);
        DUE.is("gas, fare and fine are just there", town.rode(0), -2);
        town.next(1);
        town.give(100);
        DUE.is("morning()", town.morning(), 1);
        DUE.is("not gone the next day", town.rode(0), 1);
        DUE.is("stopped", town.wheeled(0, 0), 1);
        DUE.is("not gone", town.wheeled(0, 1), 0);
        DUE.is("at the other STOP", town.wheeled(0, 3), 1);
    }

    private static void taxis() {
        WalkingTown town = row(1, 60);
        town.wheel(2, 0, 3, -1);
        town.trip(0, 0, 1, 100, 0, 9);
        Due.person(town, 0, 1, 0, 100, 300, 1);
        Due.person(town, 0, 1, 0, 100, 300, 2);
        DUE.is("morning()", town.morning(), 2);
        DUE.is("rode(0)", town.rode(0), 2);
        DUE.is("its own coin", town.wheeled(0, 2), 20);
        DUE.is("THE FUND", town.count(6), 0);
        DUE.is("purse", town.of(0, 4), 0);
        DUE.is("purse", town.of(1, 4), 10);
        town.next(1);
        town.morning();
        DUE.is("rode(0)", town.rode(0), 1);
        DUE.is("from all mornings", town.wheeled(0, 2), 30);
    }

    private static void taxiFined() {
        WalkingTown town = row(1, 60);
        town.give(1000);
        town.wheel(2, 0, 3, -1);
        Due.law(town, 0, "stop;fine 15;hold 0;");
        town.trip(0, 0, 1, 100, 0, 9);
        Due.person(town, 0, 1, 0, 100, 300, 9);
        Due.person(town, 0, 1, 0, 100, 300, 1);
        DUE.is("morning()", town.morning(), 2);
        DUE.is("rode(0)", town.rode(0), 2);
        DUE.is("twice the fare less the fine", town.wheeled(0, 2), 5);
        DUE.is("THE FUND", town.count(6), 1000);
        town.next(1);
        town.morning();
        DUE.is("the fare and the 5 are just the fine", town.wheeled(0, 2), 0);
        town.next(1);
        town.morning();
        DUE.is("gone", town.wheeled(0, 1), 1);
        DUE.is("the fare stays with it", town.wheeled(0, 2), 10);
        DUE.is("THE FUND", town.count(6), 1000);
        person("gets out and walks", town, 0, 208, 0, 60, 0, 60);
    }

    private static void seatsByBegins() {
        WalkingTown town = row(1, 60);
        town.give(100);
        town.wheel(0, 0, 2, -1);
        town.trip(0, 0, 1, 100, 0, 9);
        Due.person(town, 0, 1, 0, 90, 300, 0);
        Due.person(town, 0, 1, 0, 100, 299, 0);
        Due.person(town, 0, 1, 0, 80, 300, 0);
        town.morning();
        person("second", town, 0, 118, 0, 0, 1);
        person("first", town, 1, 118, 0, 0, 1);
        person("no seat", town, 2, 208, 0, 60, 0);
        DUE.is("rode(0)", town.rode(0), 2);
    }

    private static void noFare() {
        WalkingTown town = row(1, 60);
        town.give(100);
        town.wheel(0, 0, 1, -1);
        town.trip(0, 0, 1, 100, 0, 9);
        Due.law(town, 0, "fare 11 if riders>0;fare 10;");
        Due.person(town, 0, 1, 0, 90, 200, 0);
        Due.person(town, 0, 1, 0, 90, 300, 1);
        town.morning();
        person("has not the fare", town, 0, 208, 8, 60, 0, 0);
        person("has it", town, 1, 118, 0, 0, 1, 0);
        DUE.is("THE FUND", town.count(6), 100 - 20 + 10);
    }

    private static void hearing() {
        WalkingTown town = row(1, 60);
        town.give(500);
        town.wheel(0, 0, 9, -1);
        for (int lag = 0; lag < 3; lag++) {
            Due.numbers(town, 90, 300, 30, 9, 0, lag);
            town.person(0, 1, 0);
        }
        town.next(1);
        town.trip(0, 0, 1, 100, 1, 9);
        for (int day = 1; day <= 4; day++) {
            town.morning();
            DUE.is("rode on day " + day, town.rode(0), Math.min(3, day));
            town.next(1);
        }
    }

    private static void failing() {
        WalkingTown town = row(2, 60);
        town.stop(9);
        town.give(45);
        town.wheel(0, 0, 9, 0);
        town.wheel(0, 3, 9, 0);
        Due.law(town, 0, "carry not if minute=100;carry not if not insured;");
        town.trip(0, 0, 1, 100, 0, 9);
        town.trip(0, 1, 2, 110, 0, 9);
        town.trip(1, 3, 0, 110, 0, 9);
        town.trip(0, 0, 1, 120, 0, 9);
        town.trip(0, 1, 2, 137, 0, 9);
        town.trip(0, 1, 2, 138, 0, 9);
        town.trip(0, 2, 1, 160, 0, 9);
        town.morning();
        int[] due = {-2, -2, -2, 0, -2, 0, -2};
        for (int t = 0; t < due.length; t++) {
            DUE.is("rode(" + t + ")", town.rode(t), due[t]);
        }
        DUE.is("THE FUND", town.count(6), 5);
        DUE.is("wheeled(0, 3)", town.wheeled(0, 3), 2);
        DUE.is("wheeled(1, 3)", town.wheeled(1, 3), 3);
    }

    private static void oneMinute() {
        WalkingTown town = row(2, 60);
        town.give(500);
        town.wheel(0, 0, 9, 0);
        town.wheel(0, 0, 9, 0);
        town.trip(0, 0, 1, 100, 0, 9);
        town.trip(0, 0, 2, 100, 0, 9);
        town.trip(1, 0, 2, 130, 0, 9);
        Due.person(town, 0, 1, 0, 90, 300, 0);
        Due.person(town, 0, 2, 0, 90, 300, 0);
        town.morning();
        DUE.is("the first by numbers", town.rode(0), 1);
        DUE.is("its wheel has left", town.rode(1), -2);
        DUE.is("chosen anew", town.rode(2), 1);
        person("rode later", town, 1, 166, 0, 0, 1);
    }

    private static void afterTheEnd() {
        WalkingTown town = row(1, 99);
        town.give(500);
        town.wheel(0, 0, 9, 0);
        town.trip(0, 0, 1, 700, 0, 9);
        Due.law(town, 0, "stop;fine 1;hold 109 if day=0;hold 110;dock 1;");
        Due.person(town, 0, 1, 100, 600, 719, 0);
        town.morning();
        person("in MINUTE 839", town, 0, 839, 120, 0, 1, 88);
        town.trip(0, 0, 1, 610, 1, 9);
        Due.law(town, 1, "stop;fine 1;hold 199 if day=1;hold 200;dock 1;");
        for (int day = 1; day <= 2; day++) {
            town.next(1);
            town.morning();
            DUE.is("rode(1)", town.rode(1), 1);
            DUE.is("to which it drives", town.wheeled(0, 3), 1);
            person("day " + day, town, 0, day == 1 ? 839 : -1, day == 1 ? 120 : 121, 0, 1);
        }
    }

    private static void tried() {
        WalkingTown town = row(1, 60);
        town.give(100);
        town.wheel(0, 0, 1, -1);
        town.wheel(2, 0, 1, -1);
        town.wheel(0, 1, 1, -1);
        town.trip(0, 0, 1, 100, 0, 9);
        town.trip(1, 0, 1, 101, 0, 9);
        Due.person(town, 0, 1, 50, 100, 130, 3);
        Due.person(town, 0, 1, 50, 100, 130, 3);
        DUE.is("tried(-1)", town.tried(-1), -1);
        DUE.is("tried(3)", town.tried(3), -1);
        for (int i = 0; i < 2; i++) {
            DUE.is("without the car", town.tried(0), 1);
            DUE.is("without the taxi", town.tried(1), 1);
            DUE.is("without what has no trips", town.tried(2), 2);
            DUE.is("THE FUND", town.count(6), 100);
            person("nothing is changed", town, 0, -1, 0, 0, 0, 30, 5, 0);
            DUE.is("rode(0)", town.rode(0), -1);
            DUE.is("wheeled(0, 3)", town.wheeled(0, 3), 0);
            DUE.is("wheeled(1, 2)", town.wheeled(1, 2), 0);
        }
        DUE.is("morning()", town.morning(), 2);
        DUE.is("THE FUND", town.count(6), 80);
        DUE.is("wheeled(1, 2)", town.wheeled(1, 2), 10);
        town.next(1);
        town.tried(0);
        DUE.is("the latest morning stays", town.rode(0), 1);
        person("the latest morning stays", town, 0, 118, 0, 0, 1, 80);
    }

    private static void noSuch() {
        WalkingTown town = row(1, 60);
        DUE.throwsNoSuch("of(0, 0)", town, 0, 0);
        Due.person(town, 0, 1, 50, 100, 130, 3);
        DUE.throwsNoSuch("of(-1, 0)", town, -1, 0);
        DUE.throwsNoSuch("of(1, 0)", town, 1, 0);
        DUE.throwsNoSuch("of(0, -1)", town, 0, -1);
        DUE.throwsNoSuch("of(0, 7)", town, 0, 7);
        DUE.throwsNoSuch("of(MIN, MIN)", town, Integer.MIN_VALUE, Integer.MIN_VALUE);
        DUE.is("of(0, 4)", town.of(0, 4), 30);
        DUE.is("rode(0)", town.rode(0), -1);
        DUE.is("rode(-1)", town.rode(-1), -1);
    }

    /** times are those ahead: not the one of which hold and fine are asked. */
    private static void stoppedTimes() {
        WalkingTown town = row(2, 60);
        town.give(1000);
        town.wheel(0, 0, 1, -1);
        town.trip(0, 0, 1, 100, 0, 9);
        town.trip(0, 1, 0, 150, 0, 9);
        town.trip(0, 0, 1, 200, 0, 9);
        town.trip(0, 0, 1, 201, 0, 9);
        Due.law(town, 0, "stop if times<2;fine 100 if times=0;fine 30 if times=1;fine 999;"
                + "hold 32 if times=0;hold 33;gas 0 if times=0;gas 1 if times=1;gas 2;");
        town.morning();
        DUE.is("stopped", town.wheeled(0, 0), 2);
        DUE.is("THE FUND", town.count(6), 1000 - 100 - 30 - 1 - 2);
        int[] due = {0, 0, -2, 0};
        for (int t = 0; t < due.length; t++) {
            DUE.is("rode(" + t + ")", town.rode(t), due[t]);
        }
    }

    private static void fundIsFull() {
        WalkingTown town = row(1, 60);
        for (int i = 0; i < 10; i++) {
            town.give(100000);
        }
        town.wheel(0, 0, 9, -1);
        town.trip(0, 0, 1, 100, 0, 9);
        Due.law(town, 0, "gas 5;fare 7;");
        Due.person(town, 0, 1, 0, 100, 130, 3);
        Due.person(town, 0, 1, 0, 100, 130, 3);
        town.morning();
        DUE.is("rode(0)", town.rode(0), 2);
        DUE.is("what is above is lost", town.count(6), 1000000);
        DUE.is("the fare is paid", town.of(1, 4), 23);
    }

    private static void latestMorning() {
        WalkingTown town = row(1, 60);
        town.give(100);
        town.wheel(0, 0, 9, -1);
        town.trip(0, 0, 1, 100, 0, 0);
        town.trip(0, 0, 1, 100, 1, 1);
        Due.person(town, 0, 1, 0, 100, 130, 0);
        town.morning();
        int late = Due.person(town, 0, 1, 0, 100, 130, 0);
        int wheel = town.wheel(0, 1, 9, -1);
        int trip = town.trip(0, 0, 1, 100, 0, 0);
        town.next(1);
        person("of the day ahead", town, 0, 118, 0, 0, 1);
        person("was not there", town, late, -1, 0, 0, 0);
        DUE.is("rode(0)", town.rode(0), 1);
        DUE.is("rode(1)", town.rode(1), -1);
        DUE.is("came later", town.rode(trip), -1);
        DUE.is("came later", town.wheeled(wheel, 3), 1);
        town.morning();
        DUE.is("none of it", town.rode(0), -1);
        DUE.is("rode(1)", town.rode(1), 2);
    }

    private static void lastMinuteOnFoot() {
        WalkingTown town = row(2, 66);
        Due.person(town, 0, 2, 0, 600, 719, 0);
        Due.numbers(town, 600, 719, 60, 5, 0, 0);
        town.person(0, 2, 0);
        WalkingTown other = row(1, 80);
        other.street(1, 2, 40);
        Due.numbers(other, 600, 719, 60, 5, 0, 0);
        other.person(0, 2, 0);
        Due.numbers(other, 599, 719, 60, 5, 0, 0);
        other.person(0, 2, 0);
        town.morning();
        person("in MINUTE 838", town, 0, 838, 119, 132, 0);
        person("behind the end", town, 1, -1, 121, 132, 0);
        other.morning();
        person("in MINUTE 840", other, 0, -1, 121, 120, 0);
        person("in MINUTE 839", other, 1, 839, 120, 120, 0);
    }

    /** Of TRIPS told in no order, the way by two that are neither the first nor the last from their STOPS. */
    private static void manyWays() {
        WalkingTown town = row(2, 90);
        town.give(900);
        int[] minutes = {140, 100, 120, 160, 40};
        for (int i = 0; i < minutes.length; i++) {
            town.wheel(0, 0, 9, -1);
            town.trip(2 * i, 0, 1, minutes[i], 0, 0);
            town.wheel(0, 1, 9, -1);
            town.trip(2 * i + 1, 1, 2, minutes[i] + 26, 0, 0);
        }
        Due.person(town, 0, 2, 0, 101, 193, 0);
        Due.numbers(town, 101, 500, 30, 5, 0, 1);
        town.person(0, 2, 0);
        DUE.is("morning()", town.morning(), 2);
        person("by 120 and 166", town, 0, 193, 0, 0, 2);
        DUE.is("rode(4)", town.rode(4), 1);
        DUE.is("rode(5), a minute too early", town.rode(5), 0);
        DUE.is("rode(1)", town.rode(1), 1);
        person("has not heard of them", town, 1, 425, 0, 180, 0);
    }

    private static void fullTown() {
        WalkingTown town = row(7, 99);
        town.give(100000);
        for (int w = 0; w < 20; w++) {
            town.wheel(w % 3, w % 8, 9, 199);
        }
        for (int t = 0; t < 80; t++) {
            int from = (t % 20 + t / 20) % 8;
            town.trip(t % 20, from, (from + 1) % 8, 100 + 150 * (t / 20), 0, 199);
        }
        for (int p = 0; p < 40; p++) {
            Due.person(town, p % 8, (p + 3) % 8, 9, 60 + p, 719, 99);
        }
        for (int day = 0; day < 9; day++) {
            for (int w = 0; w < 20; w++) {
                town.tried(w);
            }
            int onTime = town.morning();
            int came = 0;
            for (int p = 0; p < 40; p++) {
                came += town.of(p, 0) >= 0 && town.of(p, 1) == 0 ? 1 : 0;
            }
            DUE.is("as many as are not late", onTime, came);
            town.next(1);
        }
        int rides = 0;
        for (int p = 0; p < 40; p++) {
            rides += town.of(p, 3);
        }
        int left = 0;
        for (int t = 0; t < 80; t++) {
            left += Math.max(0, town.rode(t));
        }
        DUE.is("rides of persons and of trips", rides, left);
        DUE.is("somebody rode", rides > 40, true);
    }

    private static void fullTownStopped() {
        WalkingTown town = row(1, 99);
        for (int w = 0; w < 20; w++) {
            town.wheel(2, 0, 2, -1);
            town.trip(w, 0, 1, 30 + w, 0, 0);
        }
        for (int p = 0; p < 40; p++) {
            Due.person(town, 0, 1, 0, 30, 719, 60);
        }
        Due.law(town, 0, "stop;fine 21 if from=0;");
        DUE.is("morning()", town.morning(), 40);
        for (int w = 0; w < 20; w++) {
            DUE.is("stopped", town.wheeled(w, 0), 1);
            DUE.is("gone", town.wheeled(w, 1), 1);
            DUE.is("two fares are kept", town.wheeled(w, 2), 20);
            DUE.is("fails", town.rode(w), -2);
        }
        for (int p = 0; p < 40; p++) {
            person("walks at last", town, p, 49 + 179, 0, 99, 0, p < 2 ? 400 : 600);
        }
    }
}
