/** Promises 1 to 3 and 26: a new object, feed, end, count. */
public final class TapeTest {
    private static final Due DUE = new Due();

    public static void main(String[] args) {
        newObject();
        nothingIsThere();
        objectsApart();
        feedAndEnd();
        order();
        signsOfNumbers();
        DUE.end();
    }

    private static void newObject() {
        WalkingTown town = new WalkingTown();
        DUE.is("NONE", WalkingTown.NONE, -1);
        for (int what = 0; what <= 7; what++) {
            DUE.is("count(" + what + ") of a new object", town.count(what), 0);
        }
        DUE.is("count(-1)", town.count(-1), -1);
        DUE.is("count(8)", town.count(8), -1);
        DUE.is("count(MIN)", town.count(Integer.MIN_VALUE), -1);
        DUE.is("wet(0)", town.wet(0), 0);
        DUE.is("far(3, 4)", town.far(3, 4), -2);
        DUE.is("fault()", town.fault(), 0);
        DUE.is("why()", town.why(), -1);
        DUE.is("morning() with nobody", town.morning(), 0);
    }

    /** "No STREETS, PERSONS, STOPS, WHEELS, TRIPS, BY-LAWS, RAIN; THE FUND 0; an empty tape." */
    private static void nothingIsThere() {
        isNew(new WalkingTown());
    }

    private static void isNew(WalkingTown town) {
        for (int a = 0; a < 12; a++) {
            for (int b = 0; b < 12; b++) {
                DUE.is("far(" + a + ", " + b + ")", town.far(a, b), a == b ? 0 : -2);
            }
        }
        for (int day = 0; day < 200; day++) {
            DUE.is("wet(" + day + ")", town.wet(day), 0);
        }
        DUE.throwsNoSuch("of(0, 4)", town, 0, 4);
        DUE.is("rode(0)", town.rode(0), -1);
        DUE.is("wheeled(0, 3)", town.wheeled(0, 3), -1);
        DUE.is("tried(0)", town.tried(0), -1);
        DUE.is("told(0, 0, 0, 0)", town.told(0, 0, 0, 0), -1);
        DUE.is("why()", town.why(), -1);
        DUE.is("fault()", town.fault(), 0);
        DUE.is("insure(0, 0)", town.insure(0, 0), false);
        DUE.is("trip(0, 0, 1, 0, 0, 0)", town.trip(0, 0, 1, 0, 0, 0), -1);
        DUE.is("wheel(0, 0, 1, 0)", town.wheel(0, 0, 1, 0), -1);
        DUE.is("seated(0)", town.seated(0), -1);
        DUE.is("seatedAt(0)", town.seatedAt(0), -1);
        DUE.is("end(1)", town.end(1), false);
        DUE.is("end(0)", town.end(0), true);
        DUE.is("next(0)", town.next(0), 0);
        for (int what = 0; what <= 7; what++) {
            DUE.is("count(" + what + ")", town.count(what), 0);
        }
        DUE.is("morning()", town.morning(), 0);
        DUE.is("a second one", town.morning(), -1);
    }

    /** What is done to one object is nothing to another, made ahead of it or behind it. */
    private static void objectsApart() {
        WalkingTown ahead = new WalkingTown();
        WalkingTown town = new WalkingTown();
        town.street(0, 1, 5);
        town.stop(0);
        town.stop(1);
        town.wheel(2, 0, 9, 5);
        town.trip(0, 0, 1, 5, 0, 5);
        Due.person(town, 0, 1, 5, 0, 9, 5);
        Due.bytes(town, 5);
        town.rain();
        Due.law(town, 0, "fare 7;x");
        Due.law(town, 0, "fare 7;");
        town.told(0, 2, 0, 0);
        Due.bytes(town, 0);
        town.seated(5);
        town.give(5);
        town.morning();
        town.next(5);
        town.feed(1, 2, 3, 4, 5);
        isNew(ahead);
        isNew(new WalkingTown());
        DUE.is("the one between them", town.count(0), 5);
        DUE.is("its tape", town.count(7), 20);
    }

    private static void feedAndEnd() {
        WalkingTown town = new WalkingTown();
        for (int i = 1; i <= 17; i++) {
            DUE.is("feed " + i, town.feed(0, 0, 0, 0, 0), 20 * i);
        }
        DUE.is("an 18th feed", town.feed(0, 0, 0, 0, 0), -1);
        DUE.is("count(7)", town.count(7), 340);
        DUE.is("end(341)", town.end(341), false);
        DUE.is("end(-1)", town.end(-1), false);
        DUE.is("count(7)", town.count(7), 340);
        DUE.is("end(321)", town.end(321), true);
        DUE.is("feed over 340", town.feed(0, 0, 0, 0, 0), -1);
        DUE.is("count(7)", town.count(7), 321);
        DUE.is("end(320)", town.end(320), true);
        DUE.is("feed to 340", town.feed(0, 0, 0, 0, 0), 340);
        DUE.is("end(340)", town.end(340), true);
        DUE.is("end(0)", town.end(0), true);
        DUE.is("end(1)", town.end(1), false);
        DUE.is("count(7)", town.count(7), 0);
    }

    private static void order() {
        WalkingTown town = new WalkingTown();
        town.feed(0x01020304, 0x05060708, 0x09000102, 0x03040506, 0x07080900);
        DUE.is("rain()", town.rain(), true);
        for (int day = 0; day < 20; day++) {
            DUE.is("wet(" + day + ")", town.wet(day), (day + 1) % 10);
        }
        town.feed(0xFF000000, 0, 0, 0, 0);
        town.end(1);
        DUE.is("rain() of 255", town.rain(), true);
        DUE.is("wet(0)", town.wet(0), 0);
    }

    /** "of each number the highest first", of those below 0 too. */
    private static void signsOfNumbers() {
        WalkingTown town = new WalkingTown();
        town.feed(-1, 0x04FFFFFF, -1, -1, -1);
        DUE.is("rain() of nineteen times 255", town.rain(), true);
        for (int day = 0; day < 20; day++) {
            DUE.is("wet(" + day + ")", town.wet(day), day < 4 ? 0 : 4);
        }
        int[] wrong = {Integer.MIN_VALUE, Integer.MAX_VALUE, -2, 0x00000A00, 0x0A000000};
        for (int number : wrong) {
            town.feed(0, 0, number, 0, 0);
            DUE.is("rain() with " + number, town.rain(), false);
            DUE.is("the tape behind it", town.count(7), 0);
        }
        town.feed(0, 0, 0x01020A00, 0, 0);
        DUE.is("cut ahead of the wrong byte", town.end(10), true);
        DUE.is("rain()", town.rain(), true);
        DUE.is("wet(9)", town.wet(9), 2);
        town.feed(1, 0, 0, 0, 0);
        DUE.is("end(MIN)", town.end(Integer.MIN_VALUE), false);
        DUE.is("end(MAX)", town.end(Integer.MAX_VALUE), false);
        DUE.is("end(21)", town.end(21), false);
        DUE.is("end(20)", town.end(20), true);
        DUE.is("end(4)", town.end(4), true);
        DUE.is("end(5) of what was cut off", town.end(5), false);
        DUE.is("feed behind 4", town.feed(0, 0, 0, 0, 0x00000003), 24);
        DUE.is("rain() of 24", town.rain(), true);
        DUE.is("wet(3)", town.wet(3), 1);
        DUE.is("wet(23)", town.wet(23), 3);
        DUE.is("wet(24)", town.wet(24), 9);
    }
}
