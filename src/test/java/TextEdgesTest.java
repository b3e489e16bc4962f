/** The edges that the document names for texts (==== 2., promises 15 to 18), sentence by sentence. */
public final class TextEdgesTest {
    private static final Due DUE = new Due();
    private static final String[] FLAGS = {"car", "wagon", "taxi", "insured"};
    private static final String[] FACTS = {"riders", "seats", "rain", "minute", "day", "from", "to", "times"};

    public static void main(String[] args) {
        everyByte();
        wordsAndNumbers();
        whatCanComeWhere();
        theEnd();
        behind300();
        highNumbers();
        dockOnce();
        lines();
        ones();
        within();
        ofOneTokenTheLeast();
        firstAlongTheText();
        faultStays();
        lawsAndDays();
        facts();
        factsAtTheirEnds();
        firstLineThatHolds();
        lastLine();
        plain();
        kindsApart();
        truth();
        longConds();
        textsApart();
        DUE.end();
    }

    private static String times(int n, String part) {
        return part.repeat(n);
    }

    private static void good(String text, int lines) {
        WalkingTown town = new WalkingTown();
        DUE.is("bylaw '" + text + "'", Due.law(town, 0, text), lines);
        DUE.is("fault of '" + text + "'", town.fault(), 0);
        DUE.is("one BY-LAW more", town.count(5), 1);
    }

    private static void bad(String text, int kind, int place) {
        WalkingTown town = new WalkingTown();
        DUE.is("bylaw '" + text + "'", Due.law(town, 0, text), -1 - place);
        DUE.is("fault of '" + text + "'", town.fault(), kind);
        DUE.is("none is told", town.count(5), 0);
    }

    /** "TOKENS, with blanks (32, 10) between them or not": every other byte between two of them is no TOKEN. */
    private static void everyByte() {
        for (int b = 0; b < 256; b++) {
            String text = "stop" + (char) b + ";carry;";
            boolean word = b >= 'a' && b <= 'z' || b >= '0' && b <= '9';
            if (b == 32 || b == 10) {
                good(text, 2);
            } else if (b == ';') {
                bad(text, 1, 5);
            } else {
                bad(text, 1, word ? 0 : 4);
            }
        }
        for (int b = 0; b < 256; b++) {
            if (b != 32 && b != 10) {
                bad("stop;" + (char) b, 1, 5);
            }
        }
        good("\n stop\n\n; \n", 1);
        good("stop if(car)or(taxi)and(rain<5);", 1);
    }

    /** "WORDS: small letters, 1 to 8; NUMBERS: 1 to 4 digits"; they go on as long as small letters and digits do. */
    private static void wordsAndNumbers() {
        good("fare 1;", 1);
        good("fare 1234;", 1);
        good("fare 0000;", 1);
        bad("fare 00000;", 1, 5);
        bad("fare 12345;", 1, 5);
        bad("fare 1 2;", 1, 7);
        bad("fare 1x;", 1, 5);
        bad("fare x1;", 1, 5);
        bad("fare1;", 1, 0);
        bad("fare 5if car;", 1, 5);
        bad("fare 5 ifcar;", 1, 7);
        bad("stop if day=5or car;", 1, 12);
        bad("stop if day=00005;", 1, 12);
        good("stop if day=0005;", 1);
        good("stop if day=5 or car;", 1);
        bad("carr y;", 1, 0);
        bad("stops;", 1, 0);
        bad("sto;", 1, 0);
        bad("STOP;", 1, 0);
        bad("stop if abcdefgh;", 1, 8);
        bad("stop if abcdefghi;", 1, 8);
        bad("stop if " + times(200, "a") + ";", 1, 8);
        bad("fare " + times(200, "1") + ";", 1, 5);
        bad("fare -1;", 1, 5);
        bad("stop if day=-1;", 1, 12);
        bad("stop if day<=1;", 1, 12);
    }

    /** Every WORD and sign at each place of a LINE: those that can't come are a FAULT of kind 1 at them. */
    private static void whatCanComeWhere() {
        String heads = " carry stop fare hold fine gas dock ";
        String ones = " not ( car wagon taxi insured riders seats rain minute day from to times ";
        String[] all = (heads + ones + "if and or ; ) < = > 7").trim().split(" +");
        for (String token : all) {
            String is = " " + token + " ";
            comes(is, heads, "stop;");
            comes(is, " ; if not ", "carry ");
            comes(is, " ; if ", "stop not ");
            comes(is, " 7 ", "fare ");
            comes(is, " 7 ", "dock ");
            comes(is, " ; if ", "hold 7 ");
            comes(is, " ; ", "dock 7 ");
            comes(is, ones, "gas 7 if ");
            comes(is, ones, "stop if not ");
            comes(is, ones, "stop if(");
            comes(is, ones, "stop if car and ");
            comes(is, ones, "stop if car or ");
            comes(is, " ; and or ", "stop if car ");
            comes(is, " ; and or ", "stop if(car)");
            comes(is, " ; and or ", "stop if day>7 ");
            comes(is, " ) and or ", "stop if(car ");
            comes(is, " < = > ", "stop if times ");
            comes(is, " 7 ", "stop if times> ");
        }
    }

    /** If it can come, the FAULT is the end of the text or there is none; else it is at the TOKEN. */
    private static void comes(String token, String may, String ahead) {
        WalkingTown town = new WalkingTown();
        String text = ahead + token;
        int answer = Due.law(town, 0, text);
        if (may.contains(token)) {
            DUE.is("can come: '" + text + "'", answer >= 0 || answer == -1 - text.length(), true);
        } else {
            DUE.is("can't come: '" + text + "'", answer, -1 - ahead.length() - 1);
            DUE.is("fault of '" + text + "'", town.fault(), 1);
        }
    }

    /** "the end: how many bytes there are". */
    private static void theEnd() {
        String text = "carry not if not(car or day>5)and taxi;";
        for (int n = 1; n < text.length(); n++) {
            String part = text.substring(0, n);
            boolean whole = part.endsWith(" ") || part.endsWith("(") || part.endsWith(")") || part.endsWith(">")
                    || text.charAt(n) < '0' || text.charAt(n) == '>' || text.charAt(n) == ';';
            if (whole) {
                bad(part, 1, n);
                bad(part + " \n", 1, n + 2);
            }
        }
        good(text, 1);
        bad(times(299, " ") + "(", 1, 299);
        bad(times(296, " ") + "stop", 1, 300);
        bad(times(295, " ") + "stop", 1, 299);
        good(times(295, " ") + "stop;", 1);
        good(times(300, "\n"), 0);
        good("", 0);
    }

    /** "300, if there are more and no FAULT is ahead: TOKENS that begin ahead of it are read whole". */
    private static void behind300() {
        for (int more = 1; more <= 40; more++) {
            bad(times(300 + more, " "), 1, 300);
        }
        bad("stop;" + times(295, " ") + "stop;", 1, 300);
        bad(times(295, " ") + "stop;" + "stop;", 1, 300);
        bad(times(296, " ") + "stop;", 1, 300);
        bad(times(297, " ") + "stop;", 1, 300);
        bad(times(297, " ") + "stopp", 1, 297);
        bad(times(299, " ") + "carry;", 1, 300);
        bad(times(299, " ") + "harry;", 1, 299);
        bad(times(300, " ") + "harry;", 1, 300);
        bad(times(293, " ") + "fare 2000;", 1, 300);
        bad(times(293, " ") + "fare 2001;", 2, 298);
        bad(times(293, " ") + "fare 12345;", 1, 298);
        bad(times(294, " ") + "fare 2001;", 2, 299);
        bad(times(295, " ") + "fare 2001;", 1, 300);
        bad(times(291, " ") + "dock 1;dock 1;", 3, 298);
        bad(times(293, " ") + "dock 1;dock 1;", 1, 300);
        bad(times(16, "stop;") + times(218, " ") + "carry;", 3, 298);
        bad(times(16, "stop;") + times(218, " ") + "harry;", 1, 298);
        bad(times(16, "stop;") + times(220, " ") + "carry;", 1, 300);
        String fifty = "stop if " + times(49, "car or ") + "car";
        DUE.is("a text of 50 ONES is longer than 300", fifty.length() > 300, true);
        bad(fifty + ";", 1, 300);
        String ten = "stop if " + times(281, " ") + times(10, "(");
        bad(ten + "(car", 4, 299);
        bad(ten + " car", 1, 300);
        bad("x" + times(339, " "), 1, 0);
        bad("fare 2001;" + times(330, " "), 2, 5);
    }

    /** "2 a NUMBER above 2000 (at it; one behind a SIGN may be any)". */
    private static void highNumbers() {
        for (String head : new String[] {"fare", "hold", "fine", "gas", "dock"}) {
            good(head + " 2000;", 1);
            good(head + " 0;", 1);
            bad(head + " 2001;", 2, head.length() + 1);
            bad(head + "  9999;", 2, head.length() + 2);
            bad(head + " 2001", 2, head.length() + 1);
        }
        for (String fact : FACTS) {
            for (char sign : "<=>".toCharArray()) {
                good("stop if " + fact + sign + "9999;", 1);
                good("stop if " + fact + sign + "0;", 1);
                bad("stop if " + fact + sign + "10000;", 1, 9 + fact.length());
            }
        }
    }

    /** "'dock' NUMBER ; (once)"; "3 dock told twice .. (at its WORD)". */
    private static void dockOnce() {
        good("dock 0;", 1);
        bad("dock 0;dock 0;", 3, 7);
        bad("dock 1;stop;\n dock", 3, 14);
        bad("dock 1;dock 2001;", 3, 7);
        bad("dock 1;dock if", 3, 7);
        bad("dock 1;docks", 1, 7);
        bad("dock 2001;dock 1;", 2, 5);
        bad("dock dock 1;", 1, 5);
    }

    /** "TEXT: { LINE }, 16 at most"; "3 .. a seventeenth LINE (at its WORD)". */
    private static void lines() {
        String[] heads = {"carry", "stop not", "fare 1", "hold 2", "fine 3", "gas 4"};
        for (int n = 0; n <= 16; n++) {
            good(times(n, "gas 4;"), n);
        }
        for (String head : heads) {
            good(times(15, "gas 4;") + head + ";", 16);
            bad(times(16, "gas 4;") + head + ";", 3, 96);
            bad(times(16, "gas 4;") + "\n" + head, 3, 97);
        }
        bad(times(16, "gas 4;") + "dock 1;", 3, 96);
        bad(times(15, "gas 4;") + "dock 1;dock 1;", 3, 97);
        bad(times(16, "gas 4;") + ";", 1, 96);
        bad(times(16, "gas 4;") + "if", 1, 96);
        bad(times(16, "gas 4;") + "7", 1, 96);
        bad(times(40, "stop;"), 3, 80);
        good(times(16, "gas 4;") + times(204, "\n"), 16);
    }

    /** "No more than 50 ONES in a text"; "4 a 51st ONE .. (at its first TOKEN)". */
    private static void ones() {
        String five = "not not not not car";
        String fifty = times(9, five + " or ") + five;
        good("stop if " + fifty + ";", 1);
        bad("stop if " + fifty + " or car;", 4, 8 + fifty.length() + 4);
        bad("stop if " + fifty + " and(", 4, 8 + fifty.length() + 4);
        bad("stop if " + fifty + " or not car;", 4, 8 + fifty.length() + 4);
        bad("stop if " + fifty + ";gas 1 if rain<1;", 4, 8 + fifty.length() + 10);
        good("stop if " + fifty + ";gas 1;", 2);
        String brackets = times(9, "((((day=1))))or") + "((((day=1))))";
        good("stop if " + brackets + ";", 1);
        bad("stop if " + brackets + "or to>1;", 4, 8 + brackets.length() + 3);
        for (String flag : FLAGS) {
            bad("stop if " + fifty + " or\n" + flag, 4, 8 + fifty.length() + 4);
        }
        for (String fact : FACTS) {
            bad("stop if " + fifty + " or " + fact, 4, 8 + fifty.length() + 4);
        }
    }

    /** "no more than 10 within one another"; "4 .. an eleventh within (at its first TOKEN)". */
    private static void within() {
        good("stop if " + times(9, "not ") + "car;", 1);
        bad("stop if " + times(10, "not ") + "car;", 4, 8 + 40);
        good("stop if " + times(9, "(") + "car" + times(9, ")") + ";", 1);
        bad("stop if " + times(10, "(") + "car", 4, 18);
        bad("stop if " + times(10, "(") + "not", 4, 18);
        good("stop if " + times(4, "not(") + "not car" + times(4, ")") + ";", 1);
        bad("stop if " + times(5, "not(") + "car", 4, 8 + 20);
        bad("stop if " + times(5, "(not ") + "day>1", 4, 8 + 25);
        good("stop if " + times(9, "(") + "car or taxi and wagon" + times(9, ")") + "and not car;", 1);
        bad("stop if " + times(9, "(") + "car or not", 1, 17 + 10);
        bad("stop if " + times(9, "(") + "car or not car", 4, 17 + 11);
        good("stop if " + times(9, "not ") + "car or " + times(9, "not ") + "car;stop if " + times(9, "not ") + "car;", 2);
    }

    /** "of one TOKEN the least". */
    private static void ofOneTokenTheLeast() {
        bad("carry 2001;", 1, 6);
        bad("2001;", 1, 0);
        bad("fare 5 2001;", 1, 7);
        bad("stop if 2001", 1, 8);
        bad("fare 20010;", 1, 5);
        String fifty = times(9, "not not not not car or ") + "not not not not car";
        bad("stop if " + fifty + " or ;", 1, 8 + fifty.length() + 4);
        bad("stop if " + fifty + " or 2001;", 1, 8 + fifty.length() + 4);
        bad("stop if " + times(10, "(") + ")", 1, 18);
        bad("stop if " + times(10, "(") + "dock", 1, 18);
        bad(times(16, "gas 4;") + "not", 1, 96);
        bad("dock 1;" + times(15, "gas 4;") + "dock 1;", 3, 97);
    }

    /** "FAULTS, the first along the text". */
    private static void firstAlongTheText() {
        bad("fare 2001;x", 2, 5);
        bad("x;fare 2001;", 1, 0);
        bad("dock 1;dock 1;fare 2001;", 3, 7);
        bad("fare 2001;dock 1;dock 1;", 2, 5);
        bad("stop if " + times(11, "(") + "x", 4, 18);
        bad("hold 2001 if " + times(11, "("), 2, 5);
        bad("stop if car x;fare 2001;", 1, 12);
        bad("dock 2001;" + times(17, "stop;"), 2, 5);
    }

    /** "The kind of the FAULT of the latest bylaw() that did not tell -1000; 0 without one and ahead of any". */
    private static void faultStays() {
        WalkingTown town = new WalkingTown();
        DUE.is("ahead of any", town.fault(), 0);
        DUE.is("-1000 ahead of any", Due.law(town, 200, "x"), -1000);
        DUE.is("still ahead of any", town.fault(), 0);
        String[] texts = {"x", "fare 2001;", "dock 1;dock 1;", "stop if " + times(11, "(")};
        for (int kind = 1; kind <= 4; kind++) {
            DUE.is("bylaw of kind " + kind, Due.law(town, 0, texts[kind - 1]) < 0, true);
            DUE.is("fault", town.fault(), kind);
            DUE.is("fault again", town.fault(), kind);
            DUE.is("-1000", Due.law(town, -1, "stop;"), -1000);
            DUE.is("fault of the one ahead", town.fault(), kind);
            DUE.is("a good one", Due.law(town, 0, "stop;"), 1);
            DUE.is("no fault", town.fault(), 0);
            DUE.is("-1000", Due.law(town, 200, texts[kind - 1]), -1000);
            DUE.is("no fault still", town.fault(), 0);
        }
    }

    private static WalkingTown withTrip(int kind, int seats, int insured, int minute) {
        WalkingTown town = new WalkingTown();
        for (int i = 0; i < 8; i++) {
            town.stop(i);
        }
        town.wheel(kind, 3, seats, insured);
        town.trip(0, 6, 5, minute, 0, 199);
        return town;
    }

    /** "on a DAY the one with the latest such DAY not behind it, of like ones the one told last; without any the empty text". */
    private static void lawsAndDays() {
        WalkingTown town = withTrip(0, 4, -1, 100);
        int[] from = {9, 0, 5, 0, 199, 5, 9, 4, 100, 10};
        for (int i = 0; i < from.length; i++) {
            DUE.is("fare of the empty text", town.told(0, 2, 0, 0), i < 2 ? 0 : i < 4 ? 2 : 4);
            DUE.is("bylaw " + i, Due.law(town, from[i], "fare " + (i + 1) + ";"), 1);
        }
        int[][] due = {{0, 4}, {3, 4}, {4, 8}, {5, 6}, {8, 6}, {9, 7}, {10, 10}, {99, 10}, {100, 9}, {198, 9}, {199, 5}};
        for (int[] day : due) {
            town.next(day[0] - town.count(0));
            DUE.is("fare on DAY " + day[0], town.told(0, 2, 0, 0), day[1]);
        }
    }

    private static void holds(WalkingTown town, String cond, boolean due) {
        DUE.is("bylaw if " + cond, Due.law(town, town.count(0), "stop if " + cond + ";"), 1);
        DUE.is(cond, town.told(0, 1, 2, 3), due ? 1 : 0);
        DUE.is("why of " + cond, town.why(), due ? 0 : -1);
    }

    /** Each fact below, at and above the number that it is compared with. */
    private static void facts() {
        int[] value = {2, 4, 7, 100, 1, 6, 5, 3};
        for (int f = 0; f < FACTS.length; f++) {
            WalkingTown town = withTrip(1, 4, 0, 100);
            Due.bytes(town, 0, 7, 0);
            town.rain();
            town.next(1);
            for (int by = -1; by <= 1; by++) {
                holds(town, FACTS[f] + "<" + (value[f] + by), by > 0);
                holds(town, FACTS[f] + "=" + (value[f] + by), by == 0);
                holds(town, FACTS[f] + ">" + (value[f] + by), by < 0);
            }
        }
        for (int kind = 0; kind < 3; kind++) {
            WalkingTown town = withTrip(kind, 4, kind - 1, 100);
            for (int flag = 0; flag < 3; flag++) {
                holds(town, FLAGS[flag], flag == kind);
                holds(town, "not " + FLAGS[flag], flag != kind);
            }
            holds(town, "insured", kind > 0);
        }
    }

    private static void factsAtTheirEnds() {
        WalkingTown town = withTrip(2, 9, 199, 719);
        town.next(199);
        holds(town, "seats=9 and minute=719 and day=199 and insured and rain=0", true);
        holds(town, "seats>9 or minute>719 or day>199 or rain>0", false);
        WalkingTown least = withTrip(0, 1, -1, 0);
        holds(least, "seats=1 and minute=0 and day=0 and not insured", true);
        holds(least, "seats<1 or minute<0 or day<0 or rain<0 or times<0", false);
        Due.law(least, 0, "stop if riders>9999 and times>9999;");
        DUE.is("very many", least.told(0, 1, Integer.MAX_VALUE, Integer.MAX_VALUE), 1);
        DUE.is("just 9999", least.told(0, 1, 9999, 10000), 0);
        DUE.is("10000", least.told(0, 1, 10000, 10000), 1);
    }

    /** "The first LINE of a kind whose COND holds, or that has none, tells". */
    private static void firstLineThatHolds() {
        WalkingTown town = withTrip(0, 4, -1, 100);
        Due.law(town, 0, "carry not if taxi;stop if taxi;fare 1 if taxi;carry if car;carry not;stop not;stop;"
                + "fare 2;fare 3 if car;hold 0;hold 9;fine 0 if car;gas 0;gas 9;");
        int[] value = {1, 0, 2, 0, 0, 0};
        int[] line = {3, 5, 7, 9, 11, 12};
        for (int what = 0; what < 6; what++) {
            DUE.is("told " + what, town.told(0, what, 0, 0), value[what]);
            DUE.is("why " + what, town.why(), line[what]);
        }
    }

    private static void lastLine() {
        WalkingTown town = withTrip(1, 4, -1, 100);
        Due.law(town, 0, times(15, "fine 1 if car;") + "fine 2000;");
        DUE.is("fine", town.told(0, 4, 0, 0), 2000);
        DUE.is("the sixteenth LINE", town.why(), 15);
        DUE.is("of no LINE", town.told(0, 3, 0, 0), 15);
        DUE.is("none", town.why(), -1);
    }

    /** "without any: it may carry; it is not stopped; fare 10 of a TAXI, else 0; hold 15; fine 500; gas 20 ..". */
    private static void plain() {
        for (int kind = 0; kind < 3; kind++) {
            for (int law = 0; law < 3; law++) {
                WalkingTown town = withTrip(kind, 4, -1, 100);
                String never = "carry not if day>0;stop if day>0;fare 1 if day>0;hold 1 if day>0;fine 1 if day>0;"
                        + "gas 1 if day>0;";
                if (law > 0) {
                    Due.law(town, 0, law == 1 ? "" : never);
                }
                int[] due = {1, 0, kind == 2 ? 10 : 0, 15, 500, kind == 2 ? 0 : 20};
                for (int what = 0; what < 6; what++) {
                    DUE.is("told " + what + " of kind " + kind, town.told(0, what, 9, 9), due[what]);
                    DUE.is("no LINE", town.why(), -1);
                }
                town.next(1);
                DUE.is("a TAXI's gas is 0, whatever the texts", town.told(0, 5, 0, 0),
                        kind == 2 ? 0 : law == 2 ? 1 : 20);
            }
        }
    }

    /** A LINE tells of its own kind alone. */
    private static void kindsApart() {
        String[] lines = {"carry not;", "stop;", "fare 7;", "hold 7;", "fine 7;", "gas 7;", "dock 7;"};
        int[] plain = {1, 0, 0, 15, 500, 20};
        for (int line = 0; line < lines.length; line++) {
            WalkingTown town = withTrip(0, 4, -1, 100);
            Due.person(town, 5, 5, 90, 600, 590, 0);
            Due.law(town, 0, lines[line]);
            for (int what = 0; what < 6; what++) {
                int due = what != line ? plain[what] : what < 2 ? what : 7;
                DUE.is(lines[line] + " of " + what, town.told(0, what, 0, 0), due);
                DUE.is("why", town.why(), what == line ? 0 : -1);
            }
            town.morning();
            DUE.is(lines[line] + " of dock", town.of(0, 4), line == 6 ? 83 : 90);
        }
    }

    /** The truth of a COND by that of its three parts, as the bits of one number. */
    private static final int A = 0b11110000;
    private static final int B = 0b11001100;
    private static final int C = 0b10101010;

    private static void truth() {
        String[] parts = {"riders>0", "times=1", "insured"};
        int[] bits = {A, B, C};
        for (int i = 0; i < 27; i++) {
            String a = parts[i / 9];
            String b = parts[i / 3 % 3];
            String c = parts[i % 3];
            int x = bits[i / 9];
            int y = bits[i / 3 % 3];
            int z = bits[i % 3];
            is(a + " or " + b, x | y);
            is(a + " and " + b, x & y);
            is("not " + a + " and " + b, ~x & y);
            is("not " + a + " or " + b, ~x | y);
            is("not(" + a + " and " + b + ")", ~(x & y));
            is("not not not " + a, ~x);
            is(a + " and " + b + " and " + c, x & y & z);
            is(a + " or " + b + " or " + c, x | y | z);
            is(a + " and " + b + " or " + c, x & y | z);
            is(a + " or " + b + " and " + c, x | y & z);
            is(a + " and(" + b + " or " + c + ")", x & (y | z));
            is("(" + a + " or " + b + ")and " + c, (x | y) & z);
            is(a + " or not(" + b + " or not " + c + ")", x | ~(y | ~z));
            is(a + " and not(" + b + " and not " + c + ")", x & ~(y & ~z));
            is("not(" + a + " or(" + b + " and(" + c + " or(not " + a + "))))", ~(x | y & (z | ~x)));
            is(a + " and " + b + " or " + b + " and " + c + " or not " + c + " and " + a, x & y | y & z | ~z & x);
            is("(" + a + " or " + b + ")and(" + b + " or " + c + ")", (x | y) & (y | z));
            is("(" + a + " and " + b + ")or(" + b + " and " + c + ")", x & y | y & z);
        }
    }

    /** riders are the highest bit of each case, times the middle one, whether it is INSURED the lowest. */
    private static void is(String cond, int due) {
        WalkingTown town = withTrip(1, 4, -1, 100);
        DUE.is("bylaw if " + cond, Due.law(town, 0, "stop if " + cond + ";"), 1);
        for (int i = 0; i < 8; i++) {
            town.insure(0, i % 2 - 1);
            DUE.is(cond + " in case " + i, town.told(0, 1, i / 4, i / 2 % 2), due >> i & 1);
        }
    }

    /** All that the limits leave is asked: the last of forty ONES, and of fifty. */
    private static void longConds() {
        for (int kind = 0; kind < 3; kind++) {
            WalkingTown town = withTrip(kind, 4, -1, 100);
            DUE.is("forty", Due.law(town, 0, "stop if " + times(39, "car or ") + "taxi;"), 1);
            DUE.is("one of forty", town.told(0, 1, 0, 0), kind == 1 ? 0 : 1);
            String five = "not not not not ";
            DUE.is("fifty", Due.law(town, 0, "stop if " + times(9, five + "car or ") + five + "wagon;"), 1);
            DUE.is("one of ten", town.told(0, 1, 0, 0), kind == 2 ? 0 : 1);
            DUE.is("ten within", Due.law(town, 0, "stop if " + times(9, "(") + "car" + times(9, ")or taxi") + ";"), 1);
            DUE.is("at each level", town.told(0, 1, 0, 0), kind == 1 ? 0 : 1);
            DUE.is("nine nots", Due.law(town, 0, "stop if " + times(9, "not ") + "car and not taxi;"), 1);
            DUE.is("an odd number of them", town.told(0, 1, 0, 0), kind == 1 ? 1 : 0);
            String both = "car or taxi and(";
            DUE.is("joins at each level",
                    Due.law(town, 0, "stop if " + times(9, both) + "wagon or taxi" + times(9, ")") + ";"), 1);
            DUE.is("the innermost one", town.told(0, 1, 0, 0), kind == 1 ? 0 : 1);
        }
    }

    /** What one text had is nothing to the next: ONES, LINES, dock and FAULTS are counted anew. */
    private static void textsApart() {
        WalkingTown town = withTrip(0, 4, -1, 100);
        String ones = "dock 1;stop if " + times(6, "not not not not car or ") + "car;" + times(14, "gas 1;");
        for (int i = 0; i < 5; i++) {
            DUE.is("a long one", Due.law(town, 0, ones), 16);
            DUE.is("one with a FAULT", Due.law(town, 0, ones + "dock 1;") < 0, true);
            DUE.is("FAULT", town.fault(), 3);
            DUE.is("none is told", town.count(5), 2 * i + 1);
            DUE.is("a short one", Due.law(town, 0, "fare 5;"), 1);
            DUE.is("its LINE alone", town.told(0, 1, 0, 0), 0);
            DUE.is("its LINE", town.told(0, 2, 0, 0), 5);
        }
    }
}
