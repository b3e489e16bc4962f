import java.util.NoSuchElementException;

/** Counts answers that are not the ones due, and puts texts and persons on a town's tape. */
final class Due {
    private static final int NOT_ASKED = Integer.MIN_VALUE;
    private int wrong;
    private int asked;

    void is(String call, long got, long want) {
        asked++;
        if (got != want) {
            wrong++;
            System.out.println(call + " answered " + got + ", due is " + want);
        }
    }

    void is(String call, boolean got, boolean want) {
        is(call, got ? 1 : 0, want ? 1 : 0);
    }

    void throwsNoSuch(String call, WalkingTown town, int p, int what) {
        int got = NOT_ASKED;
        try {
            got = town.of(p, what);
        } catch (NoSuchElementException e) {
            asked++;
            return;
        }
        asked++;
        wrong++;
        System.out.println(call + " answered " + got + ", due is NoSuchElementException");
    }

    void end() {
        System.out.println(asked + " answers, " + wrong + " not as due");
        if (wrong != 0 || asked == 0) {
            System.exit(1);
        }
    }

    static void bytes(WalkingTown town, int... bytes) {
        town.end(0);
        int[] row = new int[5];
        for (int i = 0; i < bytes.length; i += 20) {
            for (int k = 0; k < 5; k++) {
                row[k] = 0;
                for (int j = 0; j < 4; j++) {
                    int at = i + 4 * k + j;
                    row[k] = row[k] << 8 | (at < bytes.length ? bytes[at] & 255 : 0);
                }
            }
            town.feed(row[0], row[1], row[2], row[3], row[4]);
        }
        town.end(bytes.length);
    }

    static void text(WalkingTown town, String text) {
        int[] row = new int[text.length()];
        for (int i = 0; i < row.length; i++) {
            row[i] = text.charAt(i);
        }
        bytes(town, row);
    }

    static int law(WalkingTown town, int from, String text) {
        text(town, text);
        return town.bylaw(from);
    }

    static void numbers(WalkingTown town, int... numbers) {
        int[] row = new int[2 * numbers.length];
        for (int i = 0; i < numbers.length; i++) {
            row[2 * i] = numbers[i] >> 8;
            row[2 * i + 1] = numbers[i];
        }
        bytes(town, row);
    }

    /** A PERSON of 30 years, SHOES 5 and LAG 0; the purse in tens of cents. */
    static int person(WalkingTown town, int home, int work, int wage, int leaves, int begins, int tens) {
        numbers(town, leaves, begins, 30, 5, tens, 0);
        return town.person(home, work, wage);
    }
}
