/** Promises 24 and 25: seated, seatedAt. */
public final class SeatedTest {
    private static final Due DUE = new Due();

    public static void main(String[] args) {
        wrong();
        within();
        rainAndShoes();
        firstOfLike();
        order();
        shared();
        five();
        eightApart();
        manyToOne();
        seatsAndPersons();
        asShoesAreNow();
        minutesAtTheirEnds();
        latestThatWasNotNone();
        nobodyNear();
        DUE.end();
    }

    private static int seat(WalkingTown town, int minutes, int... wheels) {
        Due.bytes(town, wheels);
        int most = town.seated(minutes);
        DUE.is("the tape behind seated()", town.count(7), 0);
        return most;
    }

    private static void at(WalkingTown town, int... stops) {
        for (int k = 0; k < stops.length; k++) {
            DUE.is("seatedAt(" + k + ")", town.seatedAt(k), stops[k]);
        }
        DUE.is("seatedAt behind", town.seatedAt(stops.length), -1);
        DUE.is("seatedAt(-1)", town.seatedAt(-1), -1);
    }

    /** CORNERS 0, 1, 2 a mile from each to the next; STOPS 0, 1, 2 there. */
    private static WalkingTown row(int... seats) {
        WalkingTown town = new WalkingTown();
        town.street(0, 1, 10);
        town.street(1, 2, 10);
        for (int i = 0; i < 3; i++) {
            town.stop(i);
        }
        for (int s : seats) {
            town.wheel(0, 0, s, -1);
        }
        return town;
    }

    private static void wrong() {
        WalkingTown none = new WalkingTown();
        DUE.is("without stops", seat(none, 5, 0), -1);
        WalkingTown town = row(1, 1, 1, 1, 1, 1);
        DUE.is("seatedAt ahead of any", town.seatedAt(0), -1);
        DUE.is("an empty tape", town.seated(5), -1);
        DUE.is("six wheels", seat(town, 5, 0, 1, 2, 3, 4, 5), -1);
        DUE.is("no such wheel", seat(town, 5, 6), -1);
        DUE.is("no such wheel", seat(town, 5, 255), -1);
        DUE.is("one twice", seat(town, 5, 0, 1, 0), -1);
        DUE.is("minutes -1", seat(town, -1, 0), -1);
        DUE.is("minutes 201", seat(town, 201, 0), -1);
        DUE.is("seatedAt(0)", town.seatedAt(0), -1);
        DUE.is("with nobody", seat(town, 200, 3, 1), 0);
        at(town, 0, 0);
        DUE.is("a wrong one", seat(town, 5, 9), -1);
        at(town, 0, 0);
    }

    private static void within() {
        WalkingTown town = row(9);
        Due.person(town, 1, 0, 0, 0, 0, 0);
        Due.person(town, 2, 0, 0, 0, 0, 0);
        Due.person(town, 5, 0, 0, 0, 0, 0);
        DUE.is("in 0", seat(town, 0, 0), 1);
        at(town, 1);
        DUE.is("in 17", seat(town, 17, 0), 1);
        DUE.is("in 18", seat(town, 18, 0), 2);
        at(town, 1);
        DUE.is("in 36", seat(town, 36, 0), 2);
        at(town, 0);
        DUE.is("no way is never near", seat(town, 200, 0), 2);
    }

    private static void rainAndShoes() {
        WalkingTown town = row(9);
        Due.bytes(town, 0, 9);
        town.rain();
        Due.numbers(town, 0, 0, 99, 0, 0, 0);
        town.person(1, 0, 0);
        town.stop(1);
        DUE.is("to STOP 1 in no time", seat(town, 0, 0), 1);
        at(town, 1);
        DUE.is("32 a mile", seat(town, 31, 0), 1);
        at(town, 1);
        DUE.is("32 a mile", seat(town, 32, 0), 1);
        at(town, 0);
        town.next(1);
        DUE.is("41 a mile in rain", seat(town, 40, 0), 1);
        at(town, 1);
        DUE.is("41 a mile in rain", seat(town, 41, 0), 1);
        at(town, 0);
    }

    private static void firstOfLike() {
        WalkingTown town = row(1, 2);
        for (int i = 0; i < 3; i++) {
            Due.person(town, 2, 0, 0, 0, 0, 0);
        }
        Due.person(town, 1, 0, 0, 0, 0, 0);
        DUE.is("both at the last stop", seat(town, 0, 0, 1), 3);
        at(town, 1, 2);
        DUE.is("the other way round", seat(town, 0, 1, 0), 3);
        at(town, 2, 1);
        DUE.is("by 18 minutes", seat(town, 18, 0, 1), 3);
        at(town, 0, 1);
        DUE.is("one alone", seat(town, 0, 1), 2);
        at(town, 2);
    }

    private static void order() {
        WalkingTown town = row(3, 1);
        Due.person(town, 0, 0, 0, 0, 0, 0);
        Due.person(town, 2, 0, 0, 0, 0, 0);
        DUE.is("one at each", seat(town, 0, 0, 1), 2);
        at(town, 0, 2);
        DUE.is("one at each", seat(town, 0, 1, 0), 2);
        at(town, 0, 2);
    }

    /** Who can go to both STOPS must leave the seat to who can't. */
    private static void shared() {
        WalkingTown town = row(2, 2);
        Due.person(town, 1, 0, 0, 0, 0, 0);
        Due.person(town, 1, 0, 0, 0, 0, 0);
        Due.person(town, 0, 0, 0, 0, 0, 0);
        Due.person(town, 0, 0, 0, 0, 0, 0);
        Due.person(town, 2, 0, 0, 0, 0, 0);
        DUE.is("all seats", seat(town, 18, 0, 1), 4);
        at(town, 0, 0);
        Due.person(town, 2, 0, 0, 0, 0, 0);
        DUE.is("one stop each", seat(town, 0, 0, 1), 4);
        at(town, 0, 1);
    }

    private static void five() {
        WalkingTown town = new WalkingTown();
        for (int i = 0; i < 8; i++) {
            town.stop(i);
        }
        for (int i = 0; i < 5; i++) {
            town.wheel(1, 0, 9, -1);
        }
        for (int i = 0; i < 40; i++) {
            Due.person(town, i % 5 + 3, 0, 0, 0, 0, 0);
        }
        DUE.is("forty", seat(town, 200, 4, 3, 2, 1, 0), 40);
        at(town, 3, 4, 5, 6, 7);
    }

    /** Each STOP has those of its own CORNER alone: the more, the higher its number. */
    private static void eightApart() {
        WalkingTown town = new WalkingTown();
        for (int i = 0; i < 8; i++) {
            town.stop(i);
        }
        for (int i = 0; i < 36; i++) {
            int corner = 0;
            for (int rest = i; rest > corner; rest -= corner) {
                corner++;
            }
            Due.person(town, corner, 0, 0, 0, 0, 0);
        }
        int[] seats = {9, 1, 9, 5};
        for (int s : seats) {
            town.wheel(0, 0, s, -1);
        }
        DUE.is("9, 1, 9, 5", seat(town, 200, 0, 1, 2, 3), 21);
        at(town, 6, 0, 7, 4);
        DUE.is("1 alone", seat(town, 200, 1), 1);
        at(town, 0);
    }

    /** "as many as one likes to one"; where a WHEEL has its BASE, and what MORNINGS do with it, is nothing to it. */
    private static void manyToOne() {
        WalkingTown town = row(1, 2, 3, 1, 2, 9);
        for (int i = 0; i < 9; i++) {
            Due.person(town, 2, 0, 0, 0, 0, 0);
        }
        DUE.is("five at one STOP", seat(town, 0, 0, 1, 2, 3, 4), 9);
        at(town, 2, 2, 2, 2, 2);
        DUE.is("one of 9 does as well: the others at the first STOP", seat(town, 0, 0, 1, 5, 3, 4), 9);
        at(town, 0, 0, 2, 0, 0);
        town.morning();
        DUE.is("behind the MORNING", seat(town, 0, 4), 2);
        at(town, 2);
    }

    /** "each in one, no more in it than SEATS". */
    private static void seatsAndPersons() {
        for (int seats = 1; seats <= 9; seats++) {
            WalkingTown town = row(seats);
            for (int i = 0; i <= seats; i++) {
                DUE.is("PERSONS " + i + " of SEATS " + seats, seat(town, 0, 0), Math.min(i, seats));
                at(town, i == 0 ? 0 : 1);
                Due.person(town, 1, 0, 0, 0, 0, 0);
            }
            DUE.is("one more than SEATS " + seats, seat(town, 0, 0), seats);
        }
    }

    /** 300 on foot take one of SHOES 1: 22 MINUTES a mile ahead of it, 27 behind it. */
    private static void asShoesAreNow() {
        WalkingTown town = row(1);
        int[] lengths = {99, 99, 99, 3};
        for (int i = 0; i < lengths.length; i++) {
            town.street(2 + i, 3 + i, lengths[i]);
        }
        Due.numbers(town, 0, 0, 30, 1, 0, 0);
        town.person(1, 6, 0);
        for (int worn = 0; worn < 2; worn++) {
            int mile = worn == 0 ? 22 : 27;
            DUE.is("SHOES", town.of(0, 5), 1 - worn);
            DUE.is("a MINUTE less", seat(town, mile - 1, 0), 1);
            at(town, 1);
            DUE.is("a mile", seat(town, mile, 0), 1);
            at(town, 0);
            town.morning();
        }
    }

    /** "no more than a told number of MINUTES of walking"; 0 to 200. */
    private static void minutesAtTheirEnds() {
        WalkingTown town = new WalkingTown();
        town.street(0, 1, 99);
        town.street(1, 2, 12);
        town.stop(2);
        town.wheel(0, 0, 1, -1);
        Due.person(town, 0, 0, 0, 0, 0, 0);
        DUE.is("111 tenths take 200", seat(town, 199, 0), 0);
        at(town, 0);
        DUE.is("111 tenths take 200", seat(town, 200, 0), 1);
        at(town, 0);
        town.street(0, 2, 98);
        DUE.is("98 tenths take 177", seat(town, 176, 0), 0);
        DUE.is("98 tenths take 177", seat(town, 177, 0), 1);
    }

    /** "by the latest seated() that was not NONE; NONE: there is none such, or ahead of any". */
    private static void latestThatWasNotNone() {
        WalkingTown town = row(1, 1, 1);
        Due.person(town, 1, 0, 0, 0, 0, 0);
        Due.person(town, 2, 0, 0, 0, 0, 0);
        for (int k = -1; k <= 5; k++) {
            DUE.is("seatedAt(" + k + ") ahead of any", town.seatedAt(k), -1);
        }
        DUE.is("three", seat(town, 0, 2, 0, 1), 2);
        at(town, 0, 1, 2);
        DUE.is("none at all", seat(town, 0), -1);
        at(town, 0, 1, 2);
        DUE.is("one", seat(town, 0, 2), 1);
        at(town, 1);
        DUE.is("seatedAt(2) was of the one ahead", town.seatedAt(2), -1);
        DUE.is("MINUTES 201", seat(town, 201, 2, 0), -1);
        at(town, 1);
        DUE.is("seatedAt(MAX)", town.seatedAt(Integer.MAX_VALUE), -1);
        DUE.is("seatedAt(MIN)", town.seatedAt(Integer.MIN_VALUE), -1);
        Due.person(town, 2, 0, 0, 0, 0, 0);
        Due.person(town, 2, 0, 0, 0, 0, 0);
        town.stop(0);
        at(town, 1);
    }

    /** Of like ones the first, though nobody is seated in any. */
    private static void nobodyNear() {
        WalkingTown town = row(1, 2);
        Due.numbers(town, 0, 0, 30, 5, 0, 0);
        town.person(2, 0, 0);
        DUE.is("at the last STOP", seat(town, 0, 1), 1);
        at(town, 2);
        WalkingTown later = row(1, 2);
        later.street(1, 5, 1);
        Due.person(later, 5, 0, 0, 0, 0, 0);
        DUE.is("a tenth from STOP 1", seat(later, 2, 1, 0), 1);
        at(later, 0, 1);
        DUE.is("a MINUTE less", seat(later, 1, 1, 0), 0);
        at(later, 0, 0);
    }
}
