/** Promises 1 to 3 and 26: a new object, feed, end, count. */
public final class TapeTest {
    private static final Due DUE = new Due();

    public static void main(String[] args) {
        newObject();
        feedAndEnd();
        order();
        DUE.end();
    }

    private static void newObject() {
        WalkingTown town = new WalkingTown();
        DUE.is("NONE", WalkingTown.NONE, -1);
        for (int what = 0; what <= 7; what++) {
            DUE.is("count(" + what + ") of a new object", town.count(what), 0);
        }
        DUE.is("count(-1)", town.count(-1), -1);
        DUE.is("count(8)", town.count(8), -1);
        DUE.is("count(MIN)", town.count(Integer.MIN_VALUE), -1);
        DUE.is("wet(0)", town.wet(0), 0);
        DUE.is("far(3, 4)", town.far(3, 4), -2);
        DUE.is("fault()", town.fault(), 0);
        DUE.is("why()", town.why(), -1);
        DUE.is("morning() with nobody", town.morning(), 0);
    }

    private static void feedAndEnd() {
        WalkingTown town = new WalkingTown();
        for (int i = 1; i <= 17; i++) {
            DUE.is("feed " + i, town.feed(0, 0, 0, 0, 0), 20 * i);
        }
        DUE.is("an 18th feed", town.feed(0, 0, 0, 0, 0), -1);
        DUE.is("count(7)", town.count(7), 340);
        DUE.is("end(341)", town.end(341), false);
        DUE.is("end(-1)", town.end(-1), false);
        DUE.is("count(7)", town.count(7), 340);
        DUE.is("end(321)", town.end(321), true);
        DUE.is("feed over 340", town.feed(0, 0, 0, 0, 0), -1);
        DUE.is("count(7)", town.count(7), 321);
        DUE.is("end(320)", town.end(320), true);
        DUE.is("feed to 340", town.feed(0, 0, 0, 0, 0), 340);
        DUE.is("end(340)", town.end(340), true);
        DUE.is("end(0)", town.end(0), true);
        DUE.is("end(1)", town.end(1), false);
        DUE.is("count(7)", town.count(7), 0);
    }

    private static void order() {
        WalkingTown town = new WalkingTown();
        town.feed(0x01020304, 0x05060708, 0x09000102, 0x03040506, 0x07080900);
        DUE.is("rain()", town.rain(), true);
        for (int day = 0; day < 20; day++) {
            DUE.is("wet(" + day + ")", town.wet(day), (day + 1) % 10);
        }
        town.feed(0xFF000000, 0, 0, 0, 0);
        town.end(1);
        DUE.is("rain() of 255", town.rain(), true);
        DUE.is("wet(0)", town.wet(0), 0);
    }
}
