/** Promises 15 to 18: by-laws, their FAULTS, what they tell and by which LINE. */
public final class BylawTest {
    private static final Due DUE = new Due();

    public static void main(String[] args) {
        goodTexts();
        faults();
        manyLines();
        manyOnes();
        longTexts();
        whichIsTaken();
        inForce();
        plainAnswers();
        lines();
        ridersWhereNobodyIsIn();
        nobodyIsInThere();
        timesAreAsGiven();
        facts();
        conds();
        wrongAsking();
        DUE.end();
    }

    private static void good(String text, int lines) {
        WalkingTown town = new WalkingTown();
        DUE.is("bylaw '" + text + "'", Due.law(town, 0, text), lines);
        DUE.is("fault '" + text + "'", town.fault(), 0);
        DUE.is("the tape behind bylaw()", town.count(7), 0);
        DUE.is("count(5)", town.count(5), 1);
    }

    private static void bad(String text, int place, int kind) {
        WalkingTown town = new WalkingTown();
        DUE.is("bylaw '" + text + "'", Due.law(town, 0, text), -1 - place);
        DUE.is("fault '" + text + "'", town.fault(), kind);
        DUE.is("the tape behind a wrong bylaw()", town.count(7), 0);
        DUE.is("count(5)", town.count(5), 0);
    }

    private static void goodTexts() {
        good("", 0);
        good(" \n ", 0);
        good("carry;", 1);
        good("carry\nnot ;stop;", 2);
        good("carry not if(car);", 1);
        good("fare 0;hold 2000;fine 0007;gas 1;dock 2000;", 5);
        good("fare 10 if day<9999 and from=0 or to>0;", 1);
        good("stop if not not insured and(riders>1 or seats<3)and rain=0 or minute>5 and times<2;", 1);
        good("dock 5;carry;", 2);
    }

    private static void faults() {
        bad("carry", 5, 1);
        bad("carry ", 6, 1);
        bad("carry not not;", 10, 1);
        bad("carry;x", 6, 1);
        bad("Carry;", 0, 1);
        bad("carry,;", 5, 1);
        bad("carry\t;", 5, 1);
        bad(";", 0, 1);
        bad("carry;;", 6, 1);
        bad("carry if;", 8, 1);
        bad("carry 5;", 6, 1);
        bad("not;", 0, 1);
        bad("fare not 5;", 5, 1);
        bad("fare 5 not;", 7, 1);
        bad("fare 12345;", 5, 1);
        bad("fare 5a;", 5, 1);
        bad("fare 2001;", 5, 2);
        bad("fare 9999 x", 5, 2);
        bad("dock 2001;", 5, 2);
        bad("gas 10if car;", 4, 1);
        bad("carry if car wagon;", 13, 1);
        bad("carry if car or;", 15, 1);
        bad("carry if (car;", 13, 1);
        bad("carry if car);", 12, 1);
        bad("carry if ();", 10, 1);
        bad("carry if rain>car;", 14, 1);
        bad("carry if rain 5;", 14, 1);
        bad("carry if rain>12345;", 14, 1);
        bad("carry if rain>>5;", 14, 1);
        bad("carry if 5<rain;", 9, 1);
        bad("carry if car>1;", 12, 1);
        bad("carry if hold;", 9, 1);
        bad("carry if not;", 12, 1);
        bad("carryonly;", 0, 1);
        bad("carryz;", 0, 1);
        bad("carrya;", 0, 1);
        bad("carry0;", 0, 1);
        bad("fare 0009a;", 5, 1);
        bad("carry if abcdefghi;", 9, 1);
        bad("dock 5 if car;", 7, 1);
        bad("dock 5;stop;dock 5;", 12, 3);
        bad("dock 5;dock", 7, 3);
        bad("stop if car" + (char) 233 + ";", 11, 1);
        bad("fare 2001 12345;", 5, 2);
    }

    private static String times(int n, String part) {
        StringBuilder text = new StringBuilder();
        for (int i = 0; i < n; i++) {
            text.append(part);
        }
        return text.toString();
    }

    private static void manyLines() {
        good(times(16, "stop;"), 16);
        bad(times(17, "stop;"), 80, 3);
        bad(times(16, "stop;") + "x", 80, 1);
        bad(times(16, "stop;") + "5", 80, 1);
        good(times(15, "stop;") + "dock 1;", 16);
        bad("dock 1;" + times(15, "stop;") + "dock 1;", 82, 3);
    }

    private static void manyOnes() {
        String four = "not(not car)or ";
        good("stop if " + times(12, four) + "car or car;", 1);
        bad("stop if " + times(12, four) + "car or car or taxi;", 8 + 180 + 14, 4);
        bad("stop if " + times(12, four) + "car or car or stop;", 8 + 180 + 14, 1);
        bad("stop if " + times(12, four) + "car or car or (", 8 + 180 + 14, 4);
        bad("stop if " + times(12, four) + "car or not car;", 8 + 180 + 11, 4);
        good("stop if " + times(6, four) + "car;gas 1 if " + times(6, four) + "car;", 2);
        bad("stop if " + times(6, four) + "car or car;gas 1 if " + times(6, four) + "car;", 208, 4);
        good("stop if " + times(9, "(") + "car" + times(9, ")") + ";", 1);
        bad("stop if " + times(10, "(") + "car" + times(10, ")") + ";", 18, 4);
        bad("stop if " + times(11, "("), 18, 4);
        bad("stop if " + times(10, "(") + ")", 18, 1);
        good("stop if " + times(4, "not(") + "not rain>9" + times(4, ")") + "or " + times(9, "not ") + "car;", 1);
    }

    private static void longTexts() {
        String blanks = times(294, " ");
        good("carry;" + blanks, 1);
        bad("carry;" + blanks + " ", 300, 1);
        bad(times(298, " ") + "carry;", 300, 1);
        bad(times(298, " ") + "hello;", 298, 1);
        bad(times(298, " ") + "abcdefghi", 298, 1);
        bad(times(299, " ") + "stop;stop;", 300, 1);
        bad(times(295, " ") + "stop;;", 300, 1);
        bad(times(295, " ") + "stop ", 300, 1);
        bad(times(293, " ") + "fare 2001;", 298, 2);
        bad(times(300, " ") + "X", 300, 1);
        bad("X" + times(320, " "), 0, 1);
        bad(times(340, " "), 300, 1);
        bad(times(300, ";"), 0, 1);
        bad("stop if " + times(292, "("), 18, 4);
        bad("stop if " + times(332, ")"), 8, 1);
        bad("dock 1;" + times(290, " ") + "dock 12;", 297, 3);
    }

    private static void whichIsTaken() {
        WalkingTown town = new WalkingTown();
        DUE.is("bylaw(-1)", Due.law(town, -1, "x"), -1000);
        DUE.is("bylaw(200)", Due.law(town, 200, "x"), -1000);
        DUE.is("the tape behind -1000", town.count(7), 0);
        DUE.is("fault ahead of any", town.fault(), 0);
        town.next(3);
        DUE.is("bylaw(3)", Due.law(town, 3, "fare 5000;"), -6);
        DUE.is("bylaw(2)", Due.law(town, 2, "carry;"), -1000);
        DUE.is("fault of the one ahead", town.fault(), 2);
        for (int i = 0; i < 10; i++) {
            DUE.is("bylaw " + i, Due.law(town, i % 2 == 0 ? 3 : 199, "carry;"), 1);
        }
        DUE.is("fault", town.fault(), 0);
        DUE.is("an 11th by-law", Due.law(town, 3, "carry;"), -1000);
        DUE.is("an 11th by-law with a fault", Due.law(town, 3, "x"), -1000);
        DUE.is("fault", town.fault(), 0);
        DUE.is("count(5)", town.count(5), 10);
    }

    /** Trip 0 of a car, 1 of a wagon, 2 of a taxi; from STOP 0, 1, 0 to 1, 0, 2 in MINUTES 100, 200, 300. */
    private static WalkingTown three() {
        WalkingTown town = new WalkingTown();
        for (int i = 0; i < 3; i++) {
            town.stop(i);
        }
        for (int i = 0; i < 3; i++) {
            town.wheel(i, i == 1 ? 1 : 0, 3 + i, i);
        }
        town.trip(0, 0, 1, 100, 0, 199);
        town.trip(1, 1, 0, 200, 0, 199);
        town.trip(2, 0, 2, 300, 0, 199);
        return town;
    }

    private static void inForce() {
        WalkingTown town = three();
        Due.law(town, 5, "fine 5;");
        Due.law(town, 2, "fine 2;");
        Due.law(town, 2, "hold 3;fine 3;");
        Due.law(town, 7, "");
        int[] due = {500, 500, 3, 3, 3, 5, 5, 500, 500};
        int[] line = {-1, -1, 1, 1, 1, 0, 0, -1, -1};
        for (int day = 0; day < due.length; day++) {
            DUE.is("fine on day " + day, town.told(0, 4, 0, 0), due[day]);
            DUE.is("why on day " + day, town.why(), line[day]);
            town.next(1);
        }
    }

    private static void plainAnswers() {
        WalkingTown town = three();
        int[][] due = {{1, 0, 0, 15, 500, 20}, {1, 0, 0, 15, 500, 20}, {1, 0, 10, 15, 500, 0}};
        for (int t = 0; t < 3; t++) {
            for (int what = 0; what < 6; what++) {
                DUE.is("told(" + t + ", " + what + ")", town.told(t, what, 0, 0), due[t][what]);
                DUE.is("why", town.why(), -1);
            }
        }
        Due.law(town, 0, "gas 7;fare 8;hold 9;fine 11;carry not;stop;");
        int[] told = {0, 1, 8, 9, 11, 7};
        int[] line = {4, 5, 1, 2, 3, 0};
        for (int what = 0; what < 6; what++) {
            DUE.is("told(1, " + what + ")", town.told(1, what, 0, 0), told[what]);
            DUE.is("why", town.why(), line[what]);
        }
        DUE.is("a taxi's gas", town.told(2, 5, 0, 0), 0);
        DUE.is("no line told it", town.why(), -1);
    }

    private static void lines() {
        WalkingTown town = three();
        Due.law(town, 0, "fare 1 if wagon;stop not if taxi;fare 2 if car;stop;fare 3;fare 4;");
        DUE.is("fare of a car", town.told(0, 2, 0, 0), 2);
        DUE.is("why", town.why(), 2);
        DUE.is("fare of a wagon", town.told(1, 2, 0, 0), 1);
        DUE.is("why", town.why(), 0);
        DUE.is("fare of a taxi", town.told(2, 2, 0, 0), 3);
        DUE.is("why", town.why(), 4);
        DUE.is("stop of a taxi", town.told(2, 1, 0, 0), 0);
        DUE.is("why", town.why(), 1);
        DUE.is("stop of a car", town.told(0, 1, 0, 0), 1);
        DUE.is("why", town.why(), 3);
        DUE.is("why again", town.why(), 3);
    }

    /** "riders: how many are in it (0, where it is asked whether it may carry, and of fare and gas)". */
    private static void ridersWhereNobodyIsIn() {
        WalkingTown town = three();
        Due.law(town, 0, "carry not if riders>1;stop if riders>1;fare 2 if riders>1;hold 3 if riders>1;"
                + "fine 4 if riders>1;gas 5 if riders>1;");
        int[] few = {1, 0, 0, 15, 500, 20};
        int[] many = {1, 1, 0, 3, 4, 20};
        int[] line = {-1, 1, -1, 3, 4, -1};
        for (int what = 0; what < 6; what++) {
            DUE.is("with 1 rider: " + what, town.told(0, what, 1, 0), few[what]);
            DUE.is("why", town.why(), -1);
            for (int riders : new int[] {2, 3, 9, 10, Integer.MAX_VALUE}) {
                DUE.is("with " + riders + " riders: " + what, town.told(0, what, riders, 0), many[what]);
                DUE.is("why", town.why(), line[what]);
            }
            DUE.is("riders below 0 all the same: " + what, town.told(0, what, -1, 0), -1);
        }
    }

    /** A COND that just 0 riders meet holds of carry, fare and gas, however many are given. */
    private static void nobodyIsInThere() {
        for (String nobody : new String[] {"riders=0", "riders<1", "not riders>0", "car and(riders<1 or taxi)"}) {
            WalkingTown town = three();
            String cond = " if " + nobody + ";";
            Due.law(town, 0, "carry not" + cond + "stop" + cond + "fare 2" + cond + "hold 3" + cond + "fine 4" + cond
                    + "gas 5" + cond);
            int[] none = {0, 1, 2, 3, 4, 5};
            int[] some = {0, 0, 2, 15, 500, 5};
            int[] line = {0, -1, 2, -1, -1, 5};
            for (int what = 0; what < 6; what++) {
                DUE.is(nobody + " with none: " + what, town.told(0, what, 0, 0), none[what]);
                DUE.is("why", town.why(), what);
                DUE.is(nobody + " with 3: " + what, town.told(0, what, 3, 0), some[what]);
                DUE.is("why", town.why(), line[what]);
            }
        }
    }

    /** Only riders are 0 there: times are those that are given, whatever is asked. */
    private static void timesAreAsGiven() {
        WalkingTown town = three();
        Due.law(town, 0, "carry not if times>1;stop if times>1;fare 2 if times>1;hold 3 if times>1;"
                + "fine 4 if times>1;gas 5 if times>1;");
        int[] few = {1, 0, 0, 15, 500, 20};
        int[] many = {0, 1, 2, 3, 4, 5};
        for (int what = 0; what < 6; what++) {
            DUE.is("stopped once: " + what, town.told(0, what, 5, 1), few[what]);
            DUE.is("why", town.why(), -1);
            DUE.is("stopped twice: " + what, town.told(0, what, 5, 2), many[what]);
            DUE.is("why", town.why(), what);
        }
    }

    private static void holds(String cond, int trip, int riders, int times, boolean due) {
        WalkingTown town = three();
        town.next(1);
        Due.bytes(town, 0, 6, 0);
        town.rain();
        Due.law(town, 1, "stop if " + cond + ";");
        DUE.is(cond + " of trip " + trip, town.told(trip, 1, riders, times), due ? 1 : 0);
        DUE.is("why", town.why(), due ? 0 : -1);
    }

    private static void facts() {
        holds("car", 0, 0, 0, true);
        holds("car", 1, 0, 0, false);
        holds("wagon", 1, 0, 0, true);
        holds("taxi", 2, 0, 0, true);
        holds("taxi", 0, 0, 0, false);
        holds("insured", 0, 0, 0, false);
        holds("insured", 1, 0, 0, true);
        holds("riders>2", 0, 3, 0, true);
        holds("riders>2", 0, 2, 0, false);
        holds("riders=2", 0, 2, 0, true);
        holds("riders<2", 0, 2, 0, false);
        holds("riders<2", 0, 1, 0, true);
        holds("riders>9999", 0, Integer.MAX_VALUE, 0, true);
        holds("times=4", 0, 0, 4, true);
        holds("times=4", 0, 4, 3, false);
        holds("seats=5", 2, 0, 0, true);
        holds("rain=6", 0, 0, 0, true);
        holds("minute=200", 1, 0, 0, true);
        holds("day=1", 0, 0, 0, true);
        holds("from=1", 1, 0, 0, true);
        holds("to=2", 2, 0, 0, true);
        holds("to=2", 1, 0, 0, false);
    }

    private static void conds() {
        holds("car or wagon and taxi", 0, 0, 0, true);
        holds("(car or wagon)and taxi", 0, 0, 0, false);
        holds("not car or wagon", 1, 0, 0, true);
        holds("not(car or wagon)", 1, 0, 0, false);
        holds("not car and wagon", 1, 0, 0, true);
        holds("not not car", 0, 0, 0, true);
        holds("car and wagon or taxi", 2, 0, 0, true);
        holds("car and(wagon or taxi)", 2, 0, 0, false);
        holds("car and not wagon and day=1 or taxi", 0, 0, 0, true);
        holds("wagon or taxi or not insured and rain<6", 0, 0, 0, false);
    }

    private static void wrongAsking() {
        WalkingTown town = three();
        Due.law(town, 0, "carry;");
        DUE.is("told(-1)", town.told(-1, 0, 0, 0), -1);
        DUE.is("told(3)", town.told(3, 0, 0, 0), -1);
        DUE.is("what -1", town.told(0, -1, 0, 0), -1);
        DUE.is("what 6", town.told(0, 6, 0, 0), -1);
        DUE.is("riders -1", town.told(0, 0, -1, 0), -1);
        DUE.is("times -1", town.told(0, 0, 0, -1), -1);
        DUE.is("why", town.why(), -1);
        DUE.is("a good one", town.told(0, 0, 0, 0), 1);
        DUE.is("why", town.why(), 0);
        DUE.is("a wrong one", town.told(0, 9, 0, 0), -1);
        DUE.is("no line told that", town.why(), -1);
    }
}
