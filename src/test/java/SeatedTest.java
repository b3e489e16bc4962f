/** Promises 24 and 25: seated, seatedAt. */
public final class SeatedTest {
    private static final Due DUE = new Due();

    public static void main(String[] args) {
        wrong();
        within();
        rainAndShoes();
        firstOfLike();
        order();
        shared();
        five();
        eightApart();
        DUE.end();
    }

    private static int seat(WalkingTown town, int minutes, int... wheels) {
        Due.bytes(town, wheels);
        int most = town.seated(minutes);
        DUE.is("the tape behind seated()", town.count(7), 0);
        return most;
    }

    private static void at(WalkingTown town, int... stops) {
        for (int k = 0; k < stops.length; k++) {
            DUE.is("seatedAt(" + k + ")", town.seatedAt(k), stops[k]);
        }
        DUE.is("seatedAt behind", town.seatedAt(stops.length), -1);
        DUE.is("seatedAt(-1)", town.seatedAt(-1), -1);
    }

    /** CORNERS 0, 1, 2 a mile from each to the next; STOPS 0, 1, 2 there. */
    private static WalkingTown row(int... seats) {
        WalkingTown town = new WalkingTown();
        town.street(0, 1, 10);
        town.street(1, 2, 10);
        for (int i = 0; i < 3; i++) {
            town.stop(i);
        }
        for (int s : seats) {
            town.wheel(0, 0, s, -1);
        }
        return town;
    }

    private static void wrong() {
        WalkingTown none = new WalkingTown();
        DUE.is("without stops", seat(none, 5, 0), -1);
        WalkingTown town = row(1, 1, 1, 1, 1, 1);
        DUE.is("seatedAt ahead of any", town.seatedAt(0), -1);
        DUE.is("an empty tape", town.seated(5), -1);
        DUE.is("six wheels", seat(town, 5, 0, 1, 2, 3, 4, 5), -1);
        DUE.is("no such wheel", seat(town, 5, 6), -1);
        DUE.is("no such wheel", seat(town, 5, 255), -1);
        DUE.is("one twice", seat(town, 5, 0, 1, 0), -1);
        DUE.is("minutes -1", seat(town, -1, 0), -1);
        DUE.is("minutes 201", seat(town, 201, 0), -1);
        DUE.is("seatedAt(0)", town.seatedAt(0), -1);
        DUE.is("with nobody", seat(town, 200, 3, 1), 0);
        at(town, 0, 0);
        DUE.is("a wrong one", seat(town, 5, 9), -1);
        at(town, 0, 0);
    }

    private static void within() {
        WalkingTown town = row(9);
        Due.person(town, 1, 0, 0, 0, 0, 0);
        Due.person(town, 2, 0, 0, 0, 0, 0);
        Due.person(town, 5, 0, 0, 0, 0, 0);
        DUE.is("in 0", seat(town, 0, 0), 1);
        at(town, 1);
        DUE.is("in 17", seat(town, 17, 0), 1);
        DUE.is("in 18", seat(town, 18, 0), 2);
        at(town, 1);
        DUE.is("in 36", seat(town, 36, 0), 2);
        at(town, 0);
        DUE.is("no way is never near", seat(town, 200, 0), 2);
    }

    private static void rainAndShoes() {
        WalkingTown town = row(9);
        Due.bytes(town, 0, 9);
        town.rain();
        Due.numbers(town, 0, 0, 99, 0, 0, 0);
        town.person(1, 0, 0);
        town.stop(1);
        DUE.is("to STOP 1 in no time", seat(town, 0, 0), 1);
        at(town, 1);
        DUE.is("32 a mile", seat(town, 31, 0), 1);
        at(town, 1);
        DUE.is("32 a mile", seat(town, 32, 0), 1);
        at(town, 0);
        town.next(1);
        DUE.is("41 a mile in rain", seat(town, 40, 0), 1);
        at(town, 1);
        DUE.is("41 a mile in rain", seat(town, 41, 0), 1);
        at(town, 0);
    }

    private static void firstOfLike() {
        WalkingTown town = row(1, 2);
        for (int i = 0; i < 3; i++) {
            Due.person(town, 2, 0, 0, 0, 0, 0);
        }
        Due.person(town, 1, 0, 0, 0, 0, 0);
        DUE.is("both at the last stop", seat(town, 0, 0, 1), 3);
        at(town, 1, 2);
        DUE.is("the other way round", seat(town, 0, 1, 0), 3);
        at(town, 2, 1);
        DUE.is("by 18 minutes", seat(town, 18, 0, 1), 3);
        at(town, 0, 1);
        DUE.is("one alone", seat(town, 0, 1), 2);
        at(town, 2);
    }

    private static void order() {
        WalkingTown town = row(3, 1);
        Due.person(town, 0, 0, 0, 0, 0, 0);
        Due.person(town, 2, 0, 0, 0, 0, 0);
        DUE.is("one at each", seat(town, 0, 0, 1), 2);
        at(town, 0, 2);
        DUE.is("one at each", seat(town, 0, 1, 0), 2);
        at(town, 0, 2);
    }

    /** Who can go to both STOPS must leave the seat to who can't. */
    private static void shared() {
        WalkingTown town = row(2, 2);
        Due.person(town, 1, 0, 0, 0, 0, 0);
        Due.person(town, 1, 0, 0, 0, 0, 0);
        Due.person(town, 0, 0, 0, 0, 0, 0);
        Due.person(town, 0, 0, 0, 0, 0, 0);
        Due.person(town, 2, 0, 0, 0, 0, 0);
        DUE.is("all seats", seat(town, 18, 0, 1), 4);
        at(town, 0, 0);
        Due.person(town, 2, 0, 0, 0, 0, 0);
        DUE.is("one stop each", seat(town, 0, 0, 1), 4);
        at(town, 0, 1);
    }

    private static void five() {
        WalkingTown town = new WalkingTown();
        for (int i = 0; i < 8; i++) {
            town.stop(i);
        }
        for (int i = 0; i < 5; i++) {
            town.wheel(1, 0, 9, -1);
        }
        for (int i = 0; i < 40; i++) {
            Due.person(town, i % 5 + 3, 0, 0, 0, 0, 0);
        }
        DUE.is("forty", seat(town, 200, 4, 3, 2, 1, 0), 40);
        at(town, 3, 4, 5, 6, 7);
    }

    /** Each STOP has those of its own CORNER alone: the more, the higher its number. */
    private static void eightApart() {
        WalkingTown town = new WalkingTown();
        for (int i = 0; i < 8; i++) {
            town.stop(i);
        }
        for (int i = 0; i < 36; i++) {
            int corner = 0;
            for (int rest = i; rest > corner; rest -= corner) {
                corner++;
            }
            Due.person(town, corner, 0, 0, 0, 0, 0);
        }
        int[] seats = {9, 1, 9, 5};
        for (int s : seats) {
            town.wheel(0, 0, s, -1);
        }
        DUE.is("9, 1, 9, 5", seat(town, 200, 0, 1, 2, 3), 21);
        at(town, 6, 0, 7, 4);
        DUE.is("1 alone", seat(town, 200, 1), 1);
        at(town, 0);
    }
}
