/** Promises 4 to 14: days, streets, persons, stops, wheels, trips, rain and THE FUND. */
public final class TownTest {
    private static final Due DUE = new Due();

    public static void main(String[] args) {
        days();
        streets();
        mostStreets();
        persons();
        personEdges();
        mostPersons();
        stops();
        wheels();
        insuring();
        trips();
        tripDays();
        rain();
        fund();
        DUE.end();
    }

    private static void days() {
        WalkingTown town = new WalkingTown();
        DUE.is("next(-1)", town.next(-1), -1);
        DUE.is("next(200)", town.next(200), -1);
        DUE.is("next(MAX)", town.next(Integer.MAX_VALUE), -1);
        DUE.is("next(0)", town.next(0), 0);
        DUE.is("next(1)", town.next(1), 1);
        DUE.is("next(199) from 1", town.next(199), -1);
        DUE.is("count(0)", town.count(0), 1);
        DUE.is("next(198)", town.next(198), 199);
        DUE.is("next(1) from 199", town.next(1), -1);
        DUE.is("next(0) on 199", town.next(0), 199);
        DUE.is("next(199) of a new one", new WalkingTown().next(199), 199);
    }

    private static void streets() {
        WalkingTown town = new WalkingTown();
        DUE.is("street(0, 0, 5)", town.street(0, 0, 5), false);
        DUE.is("street(-1, 0, 5)", town.street(-1, 0, 5), false);
        DUE.is("street(0, -1, 5)", town.street(0, -1, 5), false);
        DUE.is("street(12, 0, 5)", town.street(12, 0, 5), false);
        DUE.is("street(0, 12, 5)", town.street(0, 12, 5), false);
        DUE.is("street(0, 1, 0)", town.street(0, 1, 0), false);
        DUE.is("street(0, 1, 100)", town.street(0, 1, 100), false);
        DUE.is("far(0, 1)", town.far(0, 1), -2);
        DUE.is("street(0, 11, 99)", town.street(0, 11, 99), true);
        DUE.is("far(11, 0)", town.far(11, 0), 99);
        DUE.is("street(11, 0, 98)", town.street(11, 0, 98), true);
        DUE.is("far(0, 11)", town.far(0, 11), 98);
        DUE.is("street(0, 5, 1)", town.street(0, 5, 1), true);
        DUE.is("street(5, 11, 96)", town.street(5, 11, 96), true);
        DUE.is("far(0, 11)", town.far(0, 11), 97);
        DUE.is("far(11, 11)", town.far(11, 11), 0);
        DUE.is("far(5, 6)", town.far(5, 6), -2);
        DUE.is("far(-1, 0)", town.far(-1, 0), -1);
        DUE.is("far(0, -1)", town.far(0, -1), -1);
        DUE.is("far(12, 0)", town.far(12, 0), -1);
        DUE.is("far(12, 12)", town.far(12, 12), -1);
    }

    private static void mostStreets() {
        WalkingTown town = new WalkingTown();
        for (int i = 0; i < 11; i++) {
            DUE.is("street " + i, town.street(i, i + 1, 99), true);
        }
        DUE.is("far(0, 11)", town.far(0, 11), 1089);
        for (int i = 11; i < 30; i++) {
            DUE.is("street " + i, town.street(0, 1, 99), true);
        }
        DUE.is("a 31st street", town.street(0, 11, 1), false);
        DUE.is("far(0, 11)", town.far(0, 11), 1089);
    }

    private static int person(WalkingTown town, int... numbers) {
        Due.numbers(town, numbers);
        int number = town.person(0, 11, 9999);
        DUE.is("the tape behind person()", town.count(7), 0);
        return number;
    }

    private static void persons() {
        WalkingTown town = new WalkingTown();
        DUE.is("person by an empty tape", town.person(0, 1, 0), -1);
        DUE.is("person(600, 719, ..)", person(town, 600, 719, 99, 9, 10000, 9), 0);
        DUE.is("of(0, 4)", town.of(0, 4), 100000);
        DUE.is("of(0, 5)", town.of(0, 5), 9);
        DUE.is("person(0, 0, ..)", person(town, 0, 0, 10, 0, 0, 0), 1);
        DUE.is("of(1, 0)", town.of(1, 0), -1);
        for (int what = 1; what <= 6; what++) {
            DUE.is("of(1, " + what + ")", town.of(1, what), 0);
        }
        DUE.is("five numbers", person(town, 0, 0, 10, 0, 0), -1);
        DUE.is("seven numbers", person(town, 0, 0, 10, 0, 0, 0, 0), -1);
        Due.bytes(town, 0, 0, 0, 0, 0, 10, 0, 0, 0, 0, 0, 0, 0);
        DUE.is("thirteen bytes", town.person(0, 1, 0), -1);
        Due.bytes(town, 0, 0, 0, 0, 0, 10, 0, 0, 0, 0, 0);
        DUE.is("eleven bytes", town.person(0, 1, 0), -1);
        Due.bytes(town, 0, 0, 0, 0, 0, 10, 0, 0, 1, 2, 0, 0);
        DUE.is("the higher byte first", town.person(0, 1, 0), 2);
        DUE.is("of(2, 4)", town.of(2, 4), 2580);
        DUE.is("count(1)", town.count(1), 3);
    }

    private static void personEdges() {
        WalkingTown town = new WalkingTown();
        DUE.is("LEAVES 601", person(town, 601, 0, 10, 0, 0, 0), -1);
        DUE.is("BEGINS 720", person(town, 0, 720, 10, 0, 0, 0), -1);
        DUE.is("AGE 9", person(town, 0, 0, 9, 0, 0, 0), -1);
        DUE.is("AGE 100", person(town, 0, 0, 100, 0, 0, 0), -1);
        DUE.is("SHOES 10", person(town, 0, 0, 10, 10, 0, 0), -1);
        DUE.is("PURSE 10001", person(town, 0, 0, 10, 0, 10001, 0), -1);
        DUE.is("PURSE 65535", person(town, 0, 0, 10, 0, 65535, 0), -1);
        DUE.is("LAG 10", person(town, 0, 0, 10, 0, 0, 10), -1);
        int[][] wrong = {{-1, 0, 0}, {12, 0, 0}, {0, -1, 0}, {0, 12, 0}, {0, 0, -1}, {0, 0, 10000}};
        for (int[] row : wrong) {
            Due.numbers(town, 0, 0, 10, 0, 0, 0);
            DUE.is("person(" + row[0] + ", " + row[1] + ", " + row[2] + ")", town.person(row[0], row[1], row[2]), -1);
            DUE.is("the tape behind a wrong person()", town.count(7), 0);
        }
        DUE.is("count(1)", town.count(1), 0);
    }

    private static void mostPersons() {
        WalkingTown town = new WalkingTown();
        for (int i = 0; i < 40; i++) {
            DUE.is("person " + i, person(town, 0, 0, 10, 0, 0, 0), i);
        }
        DUE.is("a 41st person", person(town, 0, 0, 10, 0, 0, 0), -1);
        DUE.is("count(1)", town.count(1), 40);
        DUE.is("of(39, 4)", town.of(39, 4), 0);
        DUE.throwsNoSuch("of(40, 4)", town, 40, 4);
    }

    private static void stops() {
        WalkingTown town = new WalkingTown();
        DUE.is("stop(-1)", town.stop(-1), -1);
        DUE.is("stop(12)", town.stop(12), -1);
        for (int i = 0; i < 8; i++) {
            DUE.is("stop " + i, town.stop(i < 4 ? 11 : 0), i);
        }
        DUE.is("a ninth stop", town.stop(0), -1);
        DUE.is("count(2)", town.count(2), 8);
    }

    private static void wheels() {
        WalkingTown town = new WalkingTown();
        DUE.is("wheel without stops", town.wheel(0, 0, 1, 0), -1);
        town.stop(3);
        DUE.is("kind -1", town.wheel(-1, 0, 1, 0), -1);
        DUE.is("kind 3", town.wheel(3, 0, 1, 0), -1);
        DUE.is("base -1", town.wheel(0, -1, 1, 0), -1);
        DUE.is("base 1", town.wheel(0, 1, 1, 0), -1);
        DUE.is("seats 0", town.wheel(0, 0, 0, 0), -1);
        DUE.is("seats 10", town.wheel(0, 0, 10, 0), -1);
        DUE.is("insured -2", town.wheel(0, 0, 1, -2), -1);
        DUE.is("insured 200", town.wheel(0, 0, 1, 200), -1);
        for (int i = 0; i < 20; i++) {
            DUE.is("wheel " + i, town.wheel(i % 3, 0, 1 + i % 9, i % 2 == 0 ? -1 : 199), i);
        }
        DUE.is("a 21st wheel", town.wheel(0, 0, 1, 0), -1);
        DUE.is("count(3)", town.count(3), 20);
        for (int what = 0; what <= 3; what++) {
            DUE.is("wheeled(19, " + what + ")", town.wheeled(19, what), 0);
        }
        DUE.is("wheeled(20, 0)", town.wheeled(20, 0), -1);
        DUE.is("wheeled(-1, 0)", town.wheeled(-1, 0), -1);
        DUE.is("wheeled(0, -1)", town.wheeled(0, -1), -1);
        DUE.is("wheeled(0, 4)", town.wheeled(0, 4), -1);
    }

    private static void insuring() {
        WalkingTown town = new WalkingTown();
        town.stop(0);
        town.stop(1);
        town.wheel(0, 0, 1, -1);
        town.trip(0, 0, 1, 0, 0, 199);
        Due.law(town, 0, "carry if insured;carry not;");
        DUE.is("never insured", town.told(0, 0, 0, 0), 0);
        DUE.is("insure(0, 0)", town.insure(0, 0), true);
        DUE.is("insured up to today", town.told(0, 0, 0, 0), 1);
        town.next(1);
        DUE.is("insured up to yesterday", town.told(0, 0, 0, 0), 0);
        DUE.is("insure(0, 199)", town.insure(0, 199), true);
        DUE.is("insured", town.told(0, 0, 0, 0), 1);
        DUE.is("insure(0, 200)", town.insure(0, 200), false);
        DUE.is("insure(0, -2)", town.insure(0, -2), false);
        DUE.is("insure(1, 0)", town.insure(1, 0), false);
        DUE.is("insure(-1, 0)", town.insure(-1, 0), false);
        DUE.is("still insured", town.told(0, 0, 0, 0), 1);
        DUE.is("insure(0, -1)", town.insure(0, -1), true);
        DUE.is("no more insured", town.told(0, 0, 0, 0), 0);
    }

    private static void trips() {
        WalkingTown town = new WalkingTown();
        town.stop(0);
        town.stop(0);
        DUE.is("trip without wheels", town.trip(0, 0, 1, 0, 0, 0), -1);
        town.wheel(0, 0, 1, -1);
        DUE.is("wheel -1", town.trip(-1, 0, 1, 0, 0, 0), -1);
        DUE.is("wheel 1", town.trip(1, 0, 1, 0, 0, 0), -1);
        DUE.is("from -1", town.trip(0, -1, 1, 0, 0, 0), -1);
        DUE.is("from 2", town.trip(0, 2, 1, 0, 0, 0), -1);
        DUE.is("to -1", town.trip(0, 0, -1, 0, 0, 0), -1);
        DUE.is("to 2", town.trip(0, 0, 2, 0, 0, 0), -1);
        DUE.is("like stops", town.trip(0, 1, 1, 0, 0, 0), -1);
        DUE.is("minute -1", town.trip(0, 0, 1, -1, 0, 0), -1);
        DUE.is("minute 720", town.trip(0, 0, 1, 720, 0, 0), -1);
        for (int i = 0; i < 80; i++) {
            DUE.is("trip " + i, town.trip(0, i % 2, 1 - i % 2, i % 2 == 0 ? 0 : 719, 0, 0), i);
        }
        DUE.is("an 81st trip", town.trip(0, 0, 1, 0, 0, 0), -1);
        DUE.is("count(4)", town.count(4), 80);
    }

    private static void tripDays() {
        WalkingTown town = new WalkingTown();
        town.stop(0);
        town.stop(0);
        town.wheel(2, 0, 1, -1);
        town.next(5);
        DUE.is("first ahead of TODAY", town.trip(0, 0, 1, 0, 4, 9), -1);
        DUE.is("last ahead of first", town.trip(0, 0, 1, 0, 7, 6), -1);
        DUE.is("last 200", town.trip(0, 0, 1, 0, 5, 200), -1);
        DUE.is("first 200", town.trip(0, 0, 1, 0, 200, 200), -1);
        DUE.is("TODAY alone", town.trip(0, 0, 1, 10, 5, 5), 0);
        DUE.is("tomorrow to the day behind", town.trip(0, 0, 1, 20, 6, 7), 1);
        DUE.is("the last day", town.trip(0, 0, 1, 30, 199, 199), 2);
        int[][] due = {{5, 0, -1, -1}, {6, -1, 0, -1}, {7, -1, 0, -1}, {8, -1, -1, -1}, {199, -1, -1, 0}};
        for (int[] row : due) {
            town.next(row[0] - town.count(0));
            town.morning();
            for (int t = 0; t < 3; t++) {
                DUE.is("rode(" + t + ") on day " + row[0], town.rode(t), row[t + 1]);
            }
        }
    }

    private static void rain() {
        WalkingTown town = new WalkingTown();
        DUE.is("rain() by an empty tape", town.rain(), false);
        DUE.is("wet(199) without a row", town.wet(199), 0);
        Due.bytes(town, 255, 3, 255, 255, 0, 9, 255);
        DUE.is("rain()", town.rain(), true);
        DUE.is("the tape behind rain()", town.count(7), 0);
        int[] due = {0, 3, 3, 3, 0, 9, 9, 9};
        for (int day = 0; day < due.length; day++) {
            DUE.is("wet(" + day + ")", town.wet(day), due[day]);
        }
        DUE.is("wet(199)", town.wet(199), 9);
        DUE.is("wet(-1)", town.wet(-1), -1);
        DUE.is("wet(200)", town.wet(200), -1);
        int[][] wrong = {{10}, {1, 254}, {1, 2, 128}, new int[201], {}};
        for (int[] row : wrong) {
            Due.bytes(town, row);
            DUE.is("a wrong row of " + row.length, town.rain(), false);
            DUE.is("the tape behind a wrong row", town.count(7), 0);
            DUE.is("wet(1) stays", town.wet(1), 3);
        }
        Due.bytes(town, new int[200]);
        DUE.is("200 days", town.rain(), true);
        DUE.is("wet(199)", town.wet(199), 0);
        Due.bytes(town, 5);
        DUE.is("one day", town.rain(), true);
        DUE.is("wet(0)", town.wet(0), 5);
        DUE.is("wet(1) behind the end", town.wet(1), 9);
        town.feed(4 << 24 | 7 << 16 | 77 << 8, 0, 0, 0, 0);
        town.end(2);
        DUE.is("what was cut off is not looked at", town.rain(), true);
        DUE.is("wet(1)", town.wet(1), 7);
        DUE.is("wet(2) behind the end", town.wet(2), 9);
    }

    private static void fund() {
        WalkingTown town = new WalkingTown();
        DUE.is("give(0)", town.give(0), -1);
        DUE.is("give(-5)", town.give(-5), -1);
        DUE.is("give(100001)", town.give(100001), -1);
        DUE.is("give(MAX)", town.give(Integer.MAX_VALUE), -1);
        DUE.is("give(1)", town.give(1), 1);
        for (int i = 1; i <= 9; i++) {
            DUE.is("give(100000)", town.give(100000), 100000 * i + 1);
        }
        DUE.is("give(99999)", town.give(99999), 1000000);
        DUE.is("what is above is lost", town.give(100), 1000000);
        DUE.is("count(6)", town.count(6), 1000000);
    }
}
