import java.util.Arrays;
import java.util.Random;

/** The boundary cases of THE TABLE: term 2, promises 12 to 16. */
public final class TableBoundaryTest {
    private static final Due DUE = new Due();
    private static final int LAST_HOUR = 23;
    private static final int LAST_DAY = 30;

    /** VALUES and LETTERS by turns, from DAY 0 of HOUR 0 on. */
    private static SkyEcho withValues(int... valuesAndLetters) {
        SkyEcho sky = new SkyEcho();
        for (int i = 0; i + 1 < valuesAndLetters.length; i += 2) {
            sky.value(0, i / 2, valuesAndLetters[i], valuesAndLetters[i + 1]);
        }
        return sky;
    }

    private static void middleIs(String when, SkyEcho sky, int low, int high) {
        DUE.is(when + ": low middle", sky.middle(0, 0), low);
        DUE.is(when + ": high middle", sky.middle(0, 1), high);
    }

    private static void tableIs(SkyEcho sky, int hour, int day, int value, int letter) {
        DUE.is("value at " + hour + " " + day, sky.table(hour, day, 0), value);
        DUE.is("letter at " + hour + " " + day, sky.table(hour, day, 1), letter);
    }

    /** The VALUES around an HOUR and a DAY that refused calls could have reached by an index that runs over. */
    private static void nothingAround(SkyEcho sky) {
        for (int hour : new int[] {0, 1, 2, LAST_HOUR}) {
            for (int day : new int[] {0, 1, LAST_DAY}) {
                tableIs(sky, hour, day, -1, -1);
            }
        }
        DUE.is("no value at all", sky.count(4), 0);
    }

    private static void hoursAndDays() {
        DUE.sentence("Term 2: THE TABLE has HOURS 0 .. 23 and DAYS 0 .. 30");
        SkyEcho sky = new SkyEcho();
        DUE.is("first of all", sky.value(0, 0, 1, 0), true);
        DUE.is("last day", sky.value(0, LAST_DAY, 2, 1), true);
        DUE.is("last hour", sky.value(LAST_HOUR, 0, 3, 2), true);
        DUE.is("last of all", sky.value(LAST_HOUR, LAST_DAY, 4, 0), true);
        tableIs(sky, 0, 0, 1, 0);
        tableIs(sky, 0, LAST_DAY, 2, 1);
        tableIs(sky, LAST_HOUR, 0, 3, 2);
        tableIs(sky, LAST_HOUR, LAST_DAY, 4, 0);
        tableIs(sky, 1, 0, -1, -1);
        tableIs(sky, LAST_HOUR - 1, LAST_DAY, -1, -1);
        DUE.is("four of them", sky.count(4), 4);
    }

    private static void valuesAndLetters() {
        DUE.sentence("Term 2: each has a VALUE, 0 .. 999, with a LETTER: 0 .. 1 .. 2");
        SkyEcho sky = new SkyEcho();
        for (int value : new int[] {0, 1, 500, 998, 999}) {
            for (int letter = 0; letter <= 2; letter++) {
                DUE.is("value", sky.value(5, 6, value, letter), true);
                tableIs(sky, 5, 6, value, letter);
            }
        }
        DUE.is("they were one after another", sky.count(4), 1);
        DUE.sentence("Term 2: or it is missing (as at first)");
        nothingAround(new SkyEcho());
    }

    private static void placeOfTheMiddle() {
        DUE.sentence("Term 2: in order, the one at place (n - 1) / 2 (cut), n how many they are");
        SkyEcho sky = new SkyEcho();
        for (int n = 1; n <= LAST_DAY + 1; n++) {
            sky.value(7, LAST_DAY + 1 - n, 10 * (LAST_DAY + 1 - n), 0);
            int least = 10 * (LAST_DAY + 1 - n);
            DUE.is("low middle of " + n, sky.middle(7, 0), least + 10 * ((n - 1) / 2));
            DUE.is("high middle of " + n, sky.middle(7, 1), least + 10 * ((n - 1) / 2));
            DUE.is("how many", sky.middle(7, 2), n);
        }
        middleIs("two, not in order", withValues(9, 0, 4, 0), 4, 4);
        middleIs("three, not in order", withValues(9, 0, 4, 0, 6, 0), 6, 6);
        middleIs("four, not in order", withValues(9, 0, 4, 0, 8, 0, 6, 0), 6, 6);
        middleIs("alike", withValues(4, 0, 4, 0, 4, 0, 9, 0), 4, 4);
        middleIs("the ends", withValues(999, 0, 0, 0), 0, 0);
    }

    private static void onlyThoseNotMissing() {
        DUE.sentence("Term 2: of all VALUES there that are not missing");
        SkyEcho sky = withValues(1, 0, 2, 0, 3, 0, 4, 0, 5, 0);
        sky.miss(0, 0);
        sky.miss(0, 1);
        middleIs("three are left", sky, 4, 4);
        sky.value(1, 0, 999, 0);
        sky.value(LAST_HOUR, LAST_DAY, 999, 0);
        middleIs("other hours do not count", sky, 4, 4);
        sky.value(0, 0, 0, 0);
        middleIs("0 is not missing", sky, 3, 3);
    }

    private static void lowMiddle() {
        DUE.sentence("Term 2: LOW MIDDLE: those with LETTER 2 as if they were -1");
        middleIs("one alone", withValues(500, 2), -1, 500);
        middleIs("0 or less", withValues(0, 2), -1, 0);
        middleIs("0 or less, and 0", withValues(0, 0, 0, 2, 0, 0), 0, 0);
        middleIs("of two the lower one", withValues(300, 0, 500, 2), -1, 300);
        middleIs("of three one", withValues(300, 0, 500, 2, 400, 0), 300, 400);
        middleIs("of three two", withValues(300, 0, 500, 2, 400, 2), -1, 400);
    }

    private static void highMiddle() {
        DUE.sentence("Term 2: HIGH MIDDLE: those with LETTER 1 as if they were 1000, the same place");
        middleIs("one alone", withValues(500, 1), 500, 1000);
        middleIs("999 or more", withValues(999, 1), 999, 1000);
        middleIs("999 or more, and 999", withValues(999, 0, 999, 1, 999, 0), 999, 999);
        middleIs("of two the lower one", withValues(300, 1, 500, 0), 300, 500);
        middleIs("of two both", withValues(300, 1, 500, 1), 300, 1000);
        middleIs("of three one", withValues(300, 1, 500, 0, 400, 0), 400, 500);
        middleIs("of three two", withValues(300, 1, 500, 0, 400, 1), 400, 1000);
        DUE.sentence("Term 2: LOW MIDDLE and HIGH MIDDLE with both LETTERS");
        middleIs("one of each", withValues(300, 1, 500, 2), -1, 500);
        middleIs("one of all", withValues(300, 1, 500, 2, 400, 0), 300, 500);
        middleIs("two or less, one or more", withValues(1, 2, 2, 2, 3, 1), -1, 2);
    }

    /** Tells a VALUE that fits to the true one: just that, or that or more, or that or less. */
    private static void tellOfTrueValue(SkyEcho sky, int day, int trueValue, Random random) {
        int letter = random.nextInt(3);
        int low = letter == 2 ? trueValue : 0;
        int high = letter == 1 ? trueValue : 999;
        int told = letter == 0 ? trueValue : low + random.nextInt(high - low + 1);
        sky.value(0, day, told, letter);
    }

    private static void middleLiesBetween() {
        DUE.sentence("Term 2: (The middle one lies between them, whatever the true values are.)");
        Random random = new Random(16);
        for (int round = 0; round < 500; round++) {
            SkyEcho sky = new SkyEcho();
            int[] trueValues = new int[1 + random.nextInt(LAST_DAY + 1)];
            for (int day = 0; day < trueValues.length; day++) {
                trueValues[day] = random.nextInt(1000);
                tellOfTrueValue(sky, day, trueValues[day], random);
            }
            Arrays.sort(trueValues);
            int middle = trueValues[(trueValues.length - 1) / 2];
            DUE.is("not below the low one", sky.middle(0, 0) <= middle, true);
            DUE.is("not above the high one", sky.middle(0, 1) >= middle, true);
        }
    }

    private static void fullHour() {
        DUE.sentence("Term 2: an HOUR with all 31 DAYS");
        SkyEcho sky = new SkyEcho();
        for (int day = 0; day <= LAST_DAY; day++) {
            sky.value(LAST_HOUR, day, 900 - day, day < 16 ? 2 : 1);
        }
        DUE.is("how many", sky.middle(LAST_HOUR, 2), 31);
        DUE.is("sixteen or less: low", sky.middle(LAST_HOUR, 0), -1);
        DUE.is("fifteen or more: high", sky.middle(LAST_HOUR, 1), 900);
        sky.value(LAST_HOUR, 0, 900, 1);
        DUE.is("fifteen or less: low", sky.middle(LAST_HOUR, 0), 870);
        DUE.is("sixteen or more: high", sky.middle(LAST_HOUR, 1), 1000);
        DUE.is("all of them with letters", sky.count(5), 31);
    }

    private static void valueRefusals() {
        DUE.sentence("Promise 12: false: there is none such");
        SkyEcho sky = new SkyEcho();
        for (int hour : Due.outside(0, LAST_HOUR)) {
            DUE.is("hour " + hour, sky.value(hour, 0, 5, 0), false);
        }
        for (int day : Due.outside(0, LAST_DAY)) {
            DUE.is("day " + day, sky.value(1, day, 5, 0), false);
        }
        nothingAround(sky);
        DUE.sentence("Promise 12: false: .. or others");
        for (int value : Due.outside(0, 999)) {
            DUE.is("value " + value, sky.value(1, 1, value, 0), false);
        }
        for (int letter : Due.outside(0, 2)) {
            DUE.is("letter " + letter, sky.value(1, 1, 5, letter), false);
        }
        nothingAround(sky);
        sky.value(1, 1, 7, 2);
        DUE.is("value 1000", sky.value(1, 1, 1000, 1), false);
        DUE.is("letter 3", sky.value(1, 1, 8, 3), false);
        tableIs(sky, 1, 1, 7, 2);
    }

    private static void scaleOfTheTrace() {
        DUE.sentence("Promise 13: THE LAST TONE of THE TRACE of a BOARD, times 10, with its LETTER");
        SkyEcho sky = new SkyEcho();
        sky.echo(3, 0, 5, 9);
        DUE.is("tone 0", sky.scale(3, LAST_HOUR, LAST_DAY), true);
        tableIs(sky, LAST_HOUR, LAST_DAY, 0, 0);
        sky.echo(2, 23, 5, 9);
        DUE.is("tone 23", sky.scale(2, 0, 0), true);
        tableIs(sky, 0, 0, 230, 1);
        sky.noise(9, 2);
        sky.echo(1, 9, 5, 8);
        sky.board(1, 10, 2, 0x99000000);
        DUE.is("before a barred tone", sky.scale(1, 4, 4), true);
        tableIs(sky, 4, 4, 90, 1);
        sky.value(4, 4, 999, 2);
        sky.noise(9, 3);
        sky.board(1, 10, 2, 0);
        DUE.is("over another value", sky.scale(1, 4, 4), true);
        tableIs(sky, 4, 4, 90, 0);
        sky.blank(1);
        tableIs(sky, 4, 4, 90, 0);
    }

    private static void scaleRefusals() {
        DUE.sentence("Promise 13: False: there is none such (HOUR, DAY, BOARD)");
        SkyEcho sky = new SkyEcho();
        for (int board = 0; board < 4; board++) {
            sky.echo(board, 5, 5, 9);
        }
        for (int board : Due.outside(0, 3)) {
            DUE.is("board " + board, sky.scale(board, 1, 1), false);
        }
        for (int hour : Due.outside(0, LAST_HOUR)) {
            DUE.is("hour " + hour, sky.scale(0, hour, 0), false);
        }
        for (int day : Due.outside(0, LAST_DAY)) {
            DUE.is("day " + day, sky.scale(0, 1, day), false);
        }
        nothingAround(sky);
        sky.value(1, 1, 7, 2);
        DUE.is("board 4", sky.scale(4, 1, 1), false);
        tableIs(sky, 1, 1, 7, 2);
    }

    private static void scaleWithoutTheTrace() {
        DUE.sentence("Promise 13: without THE TRACE it is missing from now on (true, too)");
        SkyEcho sky = new SkyEcho();
        sky.value(1, 1, 7, 2);
        DUE.is("an empty board", sky.scale(0, 1, 1), true);
        tableIs(sky, 1, 1, -1, -1);
        DUE.is("missing before, too", sky.scale(0, 1, 1), true);
        nothingAround(sky);
        DUE.sentence("Promise 13: False: there is none such .. without THE TRACE, too");
        sky.value(1, 0, 7, 2);
        sky.value(0, LAST_DAY, 8, 1);
        DUE.is("day 31", sky.scale(0, 0, LAST_DAY + 1), false);
        DUE.is("day -1", sky.scale(0, 1, -1), false);
        DUE.is("hour 24", sky.scale(0, LAST_HOUR + 1, 0), false);
        DUE.is("board 4", sky.scale(4, 1, 0), false);
        tableIs(sky, 1, 0, 7, 2);
        tableIs(sky, 0, LAST_DAY, 8, 1);
    }

    private static void misses() {
        DUE.sentence("Promise 14: A VALUE is missing from now on: true");
        SkyEcho sky = withValues(5, 1, 6, 0);
        DUE.is("miss", sky.miss(0, 0), true);
        tableIs(sky, 0, 0, -1, -1);
        tableIs(sky, 0, 1, 6, 0);
        DUE.is("missing before, too", sky.miss(0, 0), true);
        DUE.is("how many", sky.count(4), 1);
        DUE.is("with letters", sky.count(5), 0);
        DUE.is("the last of all", sky.miss(LAST_HOUR, LAST_DAY), true);
        DUE.sentence("Promise 14: false: there is none such");
        sky.value(1, 0, 7, 0);
        sky.value(0, LAST_DAY, 8, 0);
        sky.value(LAST_HOUR, LAST_DAY, 9, 0);
        for (int hour : Due.outside(0, LAST_HOUR)) {
            DUE.is("hour " + hour, sky.miss(hour, 0), false);
        }
        for (int day : Due.outside(0, LAST_DAY)) {
            DUE.is("day " + day, sky.miss(0, day), false);
            DUE.is("day " + day, sky.miss(1, day), false);
        }
        DUE.is("all stay", sky.count(4), 4);
    }

    private static void tableRefusals() {
        DUE.sentence("Promise 15: NONE: it is missing");
        SkyEcho sky = new SkyEcho();
        tableIs(sky, 0, 0, -1, -1);
        sky.value(0, 0, 0, 0);
        tableIs(sky, 0, 0, 0, 0);
        DUE.sentence("Promise 15: NONE: .. there is none such");
        sky.value(1, 0, 7, 2);
        sky.value(0, LAST_DAY, 7, 2);
        sky.value(LAST_HOUR, LAST_DAY, 7, 2);
        for (int what = 0; what < 2; what++) {
            for (int hour : Due.outside(0, LAST_HOUR)) {
                DUE.is("hour " + hour, sky.table(hour, 0, what), -1);
            }
            for (int day : Due.outside(0, LAST_DAY)) {
                DUE.is("day " + day, sky.table(0, day, what), -1);
                DUE.is("day " + day, sky.table(1, day, what), -1);
            }
        }
        DUE.sentence("Promise 15: NONE: .. or for another what");
        for (int what : Due.outside(0, 1)) {
            DUE.is("what " + what, sky.table(1, 0, what), -1);
        }
    }

    private static void middleRefusals() {
        DUE.sentence("Promise 16: -2: none is there (for 0, 1)");
        SkyEcho sky = new SkyEcho();
        middleIs("at first", sky, -2, -2);
        DUE.is("how many", sky.middle(0, 2), 0);
        sky.value(0, 0, 5, 0);
        sky.miss(0, 0);
        middleIs("missing again", sky, -2, -2);
        DUE.is("how many then", sky.middle(0, 2), 0);
        DUE.sentence("Promise 16: -2: .. there is no such HOUR");
        for (int hour = 0; hour <= LAST_HOUR; hour++) {
            sky.value(hour, hour, 10 * hour, 0);
            DUE.is("hour " + hour, sky.middle(hour, 0), 10 * hour);
            DUE.is("how many of hour " + hour, sky.middle(hour, 2), 1);
        }
        for (int hour : Due.outside(0, LAST_HOUR)) {
            for (int what = 0; what < 3; what++) {
                DUE.is("hour " + hour + " what " + what, sky.middle(hour, what), -2);
            }
        }
        DUE.sentence("Promise 16: -2: .. or for another what");
        for (int what : Due.outside(0, 2)) {
            DUE.is("what " + what, sky.middle(0, what), -2);
            DUE.is("what " + what + " of no hour", sky.middle(24, what), -2);
        }
    }

    public static void main(String[] args) {
        hoursAndDays();
        valuesAndLetters();
        placeOfTheMiddle();
        onlyThoseNotMissing();
        lowMiddle();
        highMiddle();
        middleLiesBetween();
        fullHour();
        valueRefusals();
        scaleOfTheTrace();
        scaleRefusals();
        scaleWithoutTheTrace();
        misses();
        tableRefusals();
        middleRefusals();
        DUE.end();
    }
}
