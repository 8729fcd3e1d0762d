/** The boundary cases of THE TRACE and its TRUE HEIGHTS: terms 1 and 3, promises 8 to 11. */
public final class TraceBoundaryTest {
    private static final Due DUE = new Due();
    private static final int LAST_TONE = 23;
    private static final int LAST_HEIGHT = 31;

    /** With SHIFT 8 the ECHOES of TONES 0 .. 7 are SHIFT TONES on from nowhere, so they count once. */
    private static SkyEcho plainSky() {
        SkyEcho sky = new SkyEcho();
        sky.shift(8);
        return sky;
    }

    /** ECHOES of 9 on BOARD 0 from a TONE on, one at each of the HEIGHTS. */
    private static SkyEcho along(int firstTone, int... heights) {
        SkyEcho sky = plainSky();
        for (int i = 0; i < heights.length; i++) {
            sky.echo(0, firstTone + i, heights[i], 9);
        }
        return sky;
    }

    private static void traceIs(SkyEcho sky, String when, int worth, int first, int last, int letter) {
        DUE.is(when + ": worth", sky.trace(0, 0), worth);
        DUE.is(when + ": first tone", sky.trace(0, 1), first);
        DUE.is(when + ": last tone", sky.trace(0, 2), last);
        DUE.is(when + ": letter", sky.trace(0, 3), letter);
    }

    private static void heightsAre(SkyEcho sky, String when, int firstTone, int... heights) {
        for (int i = 0; i < heights.length; i++) {
            DUE.is(when + ": height at " + (firstTone + i), sky.height(0, firstTone + i), heights[i]);
        }
        DUE.is(when + ": height before it", sky.height(0, firstTone - 1), -1);
        DUE.is(when + ": height after it", sky.height(0, firstTone + heights.length), -1);
    }

    private static void noTrace(SkyEcho sky, String when) {
        traceIs(sky, when, -1, -1, -1, -1);
        DUE.is(when + ": height", sky.height(0, 0), -1);
        DUE.is(when + ": undone", sky.undone(0), -1);
        DUE.is(when + ": place", sky.place(0, 0, 0), -1);
    }

    private static void oneToneAndAllTones() {
        DUE.sentence("Term 1: A TRACE begins at a TONE, ends at one, not less");
        SkyEcho one = plainSky();
        one.echo(0, 0, 0, 9);
        traceIs(one, "only the first tone", 8, 0, 0, 0);
        heightsAre(one, "only the first tone", 0, 0);
        SkyEcho last = plainSky();
        last.echo(0, LAST_TONE, LAST_HEIGHT, 9);
        last.noise(1, 32);
        // Shifted it is heard at TONE 15, too; both are worth 8, and the way between them costs 7.
        traceIs(last, "from tone 15 to the last one", 9, 15, LAST_TONE, 1);
        SkyEcho all = plainSky();
        for (int tone = 0; tone <= LAST_TONE; tone++) {
            all.echo(0, tone, LAST_HEIGHT, 9);
        }
        traceIs(all, "all tones", 9 * 24 + 9 * 16 - 24, 0, LAST_TONE, 1);
        for (int tone = 0; tone <= LAST_TONE; tone++) {
            DUE.is("all tones: height", all.height(0, tone), LAST_HEIGHT);
        }
    }

    private static void heightOfGaps() {
        DUE.sentence("Term 1: A TRACE .. has a HEIGHT at each of them");
        SkyEcho sky = plainSky();
        sky.echo(0, 0, 6, 5);
        sky.echo(0, 4, 6, 5);
        traceIs(sky, "three tones without an echo", 5, 0, 4, 0);
        heightsAre(sky, "three tones without an echo", 0, 6, 6, 6, 6, 6);
        sky.echo(0, 4, 6, 4);
        traceIs(sky, "as much by one tone alone", 4, 0, 0, 0);
    }

    private static void threeAtMost() {
        DUE.sentence("Term 1: from one TONE to the next the HEIGHT differs by 3 at most");
        traceIs(along(2, 10, 13), "three up", 13, 2, 3, 0);
        traceIs(along(2, 13, 10), "three down", 13, 2, 3, 0);
        traceIs(along(2, 10, 14), "four up", 8, 2, 2, 0);
        traceIs(along(2, 14, 10), "four down", 8, 2, 2, 0);
        traceIs(along(2, 0, 3), "up from the lowest", 13, 2, 3, 0);
        traceIs(along(2, 3, 0), "down to the lowest", 13, 2, 3, 0);
        traceIs(along(2, LAST_HEIGHT, 28), "down from the highest", 13, 2, 3, 0);
        traceIs(along(2, 28, LAST_HEIGHT), "up to the highest", 13, 2, 3, 0);
    }

    private static void noWayRound() {
        DUE.sentence("Term 1: HEIGHT 31 of a TONE and HEIGHT 0 of the next one are far from each other");
        traceIs(along(2, LAST_HEIGHT, 0), "31 and 0", 8, 2, 2, 0);
        traceIs(along(2, 0, LAST_HEIGHT), "0 and 31", 8, 2, 2, 0);
        SkyEcho sky = along(2, LAST_HEIGHT, LAST_HEIGHT, LAST_HEIGHT, LAST_HEIGHT);
        for (int tone = 1; tone <= 6; tone++) {
            sky.echo(0, tone, 0, 3);
            traceIs(sky, "asked again after a change below", 32, 2, 5, 0);
            DUE.is("its height", sky.height(0, 2), LAST_HEIGHT);
        }
        sky = along(2, 0, 0, 0, 0);
        for (int tone = 1; tone <= 6; tone++) {
            sky.echo(0, tone, LAST_HEIGHT, 3);
            traceIs(sky, "asked again after a change above", 32, 2, 5, 0);
            DUE.is("its height", sky.height(0, 2), 0);
        }
    }

    private static void endsNotBarred() {
        DUE.sentence("Term 1: both ends are not BARRED");
        SkyEcho sky = along(2, 5, 5, 5, 5);
        sky.noise(9, 2);
        traceIs(sky, "none is barred", 32, 2, 5, 0);
        sky.echo(0, 2, 20, 9);
        traceIs(sky, "the first is barred", 24, 3, 5, 0);
        sky.echo(0, 5, 20, 9);
        traceIs(sky, "the last is barred", 16, 3, 4, 1);
        sky.echo(0, 4, 20, 9);
        traceIs(sky, "the last two are barred", 8, 3, 3, 1);
        sky.echo(0, 3, 20, 9);
        noTrace(sky, "all four are barred");
    }

    private static void barredEndsWithTheShifted() {
        DUE.sentence("Term 1: both ends are not BARRED (though the ECHO SHIFT TONES on would be worth it)");
        SkyEcho sky = new SkyEcho();
        sky.shift(1);
        sky.noise(9, 1);
        sky.echo(0, 5, 10, 8);
        traceIs(sky, "nothing is barred", 14, 4, 5, 0);
        sky.echo(0, 4, 30, 9);
        traceIs(sky, "no begin at a barred tone, but before it", 13, 3, 5, 0);
        sky.echo(0, 3, 30, 9);
        sky.echo(0, 2, 30, 9);
        sky.echo(0, 1, 30, 9);
        sky.echo(0, 0, 30, 9);
        traceIs(sky, "no begin before it, either", 7, 5, 5, 0);
        SkyEcho other = plainSky();
        other.noise(9, 1);
        other.echo(0, 3, 6, 8);
        other.echo(0, 12, 6, 6);
        traceIs(other, "nothing is barred there", 12, 3, 4, 0);
        other.echo(0, 4, 30, 9);
        traceIs(other, "no end at a barred tone, but after it", 11, 3, 5, 0);
        for (int tone = 5; tone < 12; tone++) {
            other.echo(0, tone, 30, 9);
        }
        traceIs(other, "no end before the next one that is not barred", 10, 3, 12, 0);
        other.echo(0, 12, 30, 9);
        traceIs(other, "nothing from there any more", 7, 3, 3, 1);
    }

    private static void throughBarredTones() {
        DUE.sentence("Term 1: both ends are not BARRED (those between may be)");
        SkyEcho sky = along(2, 5, 5, 5);
        sky.noise(9, 2);
        sky.echo(0, 3, 6, 9);
        traceIs(sky, "the middle one is barred", 15, 2, 4, 0);
        DUE.is("its height", sky.height(0, 3), 5);
    }

    private static void worthWithoutTheShifted() {
        DUE.sentence("Term 1: the ECHO of the same HEIGHT SHIFT TONES on, 0 if that is none");
        SkyEcho sky = new SkyEcho();
        for (int board = 0; board < 4; board++) {
            for (int tone = 0; tone < 9; tone++) {
                sky.echo(board, tone, 7, 5);
            }
            sky.echo(board, LAST_TONE, 7, 6);
        }
        for (int shift = 1; shift <= 8; shift++) {
            sky.shift(shift);
            for (int board = 0; board < 4; board++) {
                DUE.is("the last one that has it", sky.tell(board, LAST_TONE - shift, 7, 1), 6);
                DUE.is("the last tone", sky.tell(board, LAST_TONE, 7, 1), 6);
                int next = LAST_TONE - shift + 1;
                DUE.is("the first one that has none", sky.tell(board, next, 7, 1), next == LAST_TONE ? 6 : 0);
            }
        }
    }

    private static void sameHeight() {
        DUE.sentence("Term 1: the ECHO of the same HEIGHT SHIFT TONES on");
        SkyEcho sky = new SkyEcho();
        sky.echo(0, 9, 7, 9);
        sky.echo(0, 7, 7, 9);
        DUE.is("both", sky.tell(0, 7, 7, 1), 18);
        DUE.is("the height below", sky.tell(0, 7, 6, 1), 0);
        DUE.is("the height above", sky.tell(0, 7, 8, 1), 0);
        DUE.is("a tone before", sky.tell(0, 6, 7, 1), 0);
        DUE.is("a tone on", sky.tell(0, 8, 7, 1), 0);
        DUE.is("nothing from SHIFT TONES before", sky.tell(0, 9, 7, 1), 9);
        DUE.is("another board", sky.tell(1, 7, 7, 1), 0);
    }

    private static void worthAtBarredTones() {
        SkyEcho sky = new SkyEcho();
        sky.noise(4, 2);
        sky.echo(0, 7, 7, 5);
        sky.echo(0, 9, 7, 6);
        DUE.sentence("Term 1: its ECHO, 0 at a BARRED TONE");
        sky.echo(0, 7, 8, 4);
        DUE.is("own one barred", sky.tell(0, 7, 7, 1), 6);
        DUE.is("own one barred, nothing shifted", sky.tell(0, 7, 8, 1), 0);
        DUE.sentence("Term 1: the ECHO .. SHIFT TONES on, 0 if that is .. BARRED");
        sky.echo(0, 9, 8, 4);
        DUE.is("both barred", sky.tell(0, 7, 7, 1), 0);
        sky.echo(0, 7, 8, 3);
        DUE.is("the shifted one barred", sky.tell(0, 7, 7, 1), 5);
        sky.echo(0, 9, 8, 3);
        DUE.is("none barred", sky.tell(0, 7, 7, 1), 11);
    }

    private static void worthOfTraces() {
        DUE.sentence("Term 1: WORTH of a TRACE: of its places together, less one for each TONE it has");
        traceIs(along(0, 4, 4, 4, 4, 4, 4, 4, 4), "eight tones", 64, 0, 7, 0);
        DUE.sentence("Term 1: less how far its HEIGHTS differ from one TONE to the next, all together");
        SkyEcho sky = along(0, 4, 7, 4, 5, 5, 3);
        traceIs(sky, "up and down", 54 - 6 - 3 - 3 - 1 - 2, 0, 5, 0);
        heightsAre(sky, "up and down", 0, 4, 7, 4, 5, 5, 3);
    }

    private static void greatestWorth() {
        DUE.sentence("Term 1: THE TRACE of a BOARD: that with the greatest WORTH");
        SkyEcho sky = plainSky();
        sky.echo(0, 0, 3, 5);
        sky.echo(0, 7, 3, 6);
        traceIs(sky, "a greater one later", 5, 7, 7, 0);
        sky.echo(0, 0, 20, 7);
        traceIs(sky, "a greater one above", 6, 0, 0, 0);
        DUE.is("its height", sky.height(0, 0), 20);
    }

    private static void leastFirstTone() {
        DUE.sentence("Term 1: of several with the least first TONE");
        SkyEcho sky = plainSky();
        sky.echo(0, 2, 20, 6);
        sky.echo(0, 7, 3, 6);
        traceIs(sky, "two alike", 5, 2, 2, 0);
        DUE.is("though it is higher", sky.height(0, 2), 20);
        sky.echo(0, 1, 20, 1);
        traceIs(sky, "a tone more that adds nothing", 5, 1, 2, 0);
        sky.echo(0, 0, 20, 1);
        traceIs(sky, "two tones more", 5, 0, 2, 0);
        sky = plainSky();
        sky.echo(0, 0, 20, 9);
        sky.echo(0, 5, 20, 9);
        sky.echo(0, 2, 3, 9);
        sky.echo(0, 3, 3, 5);
        traceIs(sky, "another one ends sooner", 12, 0, 5, 0);
        heightsAre(sky, "another one ends sooner", 0, 20, 20, 20, 20, 20, 20);
    }

    private static void leastLastTone() {
        DUE.sentence("Term 1: then the least last TONE");
        SkyEcho sky = plainSky();
        sky.echo(0, 2, 20, 6);
        sky.echo(0, 3, 20, 1);
        traceIs(sky, "a tone more that adds nothing", 5, 2, 2, 0);
        sky.echo(0, 2, 4, 5);
        sky.echo(0, 3, 4, 2);
        traceIs(sky, "a longer one that is lower", 5, 2, 2, 0);
        DUE.is("the higher one", sky.height(0, 2), 20);
        sky.echo(0, 3, 4, 3);
        traceIs(sky, "a longer one that is greater", 6, 2, 3, 0);
        // From HEIGHT 10 down one and on (4 - 2, then 3 - 1) or up one and no further (6 - 2).
        sky = plainSky();
        sky.echo(0, 0, 10, 5);
        sky.echo(0, 1, 9, 4);
        sky.echo(0, 2, 9, 3);
        sky.echo(0, 1, 11, 6);
        traceIs(sky, "a longer way that is lower", 8, 0, 1, 0);
        heightsAre(sky, "a longer way that is lower", 0, 10, 11);
    }

    private static void leastHeights() {
        DUE.sentence("Term 1: then the least HEIGHT at its first TONE");
        SkyEcho sky = plainSky();
        sky.echo(0, 2, LAST_HEIGHT, 6);
        sky.echo(0, 2, 0, 6);
        DUE.is("0 and 31", sky.height(0, 2), 0);
        DUE.sentence("Term 1: .. at the next one");
        sky = along(2, 10, 12);
        sky.echo(0, 3, 8, 9);
        traceIs(sky, "two up or two down", 14, 2, 3, 0);
        heightsAre(sky, "two up or two down", 2, 10, 8);
        DUE.sentence("Term 1: .. and so on");
        sky = along(2, 10, 10, 12, 12);
        sky.echo(0, 4, 8, 9);
        sky.echo(0, 5, 8, 9);
        traceIs(sky, "later two up or two down", 30, 2, 5, 0);
        heightsAre(sky, "later two up or two down", 2, 10, 10, 8, 8);
        sky = plainSky();
        sky.echo(0, 2, 4, 9);
        sky.echo(0, 5, 6, 9);
        heightsAre(sky, "rises as late as it can", 2, 4, 4, 4, 6);
        sky = plainSky();
        sky.echo(0, 2, 6, 9);
        sky.echo(0, 5, 4, 9);
        heightsAre(sky, "falls as soon as it can", 2, 6, 4, 4, 4);
    }

    private static void worthAboveNothing() {
        DUE.sentence("Term 1: There is none if no TRACE has a WORTH above 0");
        SkyEcho sky = plainSky();
        noTrace(sky, "an empty board");
        sky.echo(0, 3, 3, 1);
        noTrace(sky, "one echo of 1");
        for (int tone = 0; tone < 8; tone++) {
            sky.echo(0, tone, 3, 1);
        }
        noTrace(sky, "eight in a row");
        sky.echo(0, 3, 3, 2);
        traceIs(sky, "just 1", 1, 0, 3, 0);
        sky.echo(0, 3, 3, 1);
        sky.shift(1);
        traceIs(sky, "each heard twice", 7, 0, 6, 0);
        sky.noise(1, 1);
        noTrace(sky, "all of them barred");
    }

    private static void letterAtTheLastTone() {
        DUE.sentence("Term 1: LETTER: 1 (it may be more) if it is 23");
        SkyEcho sky = new SkyEcho();
        sky.shift(1);
        sky.echo(0, 22, 3, 9);
        traceIs(sky, "22", 16, 21, 22, 0);
        sky.echo(0, 23, 3, 9);
        traceIs(sky, "23", 33, 21, 23, 1);
    }

    private static void letterBeforeABarredTone() {
        DUE.sentence("Term 1: LETTER: 1 .. or the next TONE is BARRED; else 0");
        SkyEcho sky = along(3, 5, 5);
        sky.noise(7, 3);
        traceIs(sky, "nothing is barred", 16, 3, 4, 0);
        sky.board(0, 6, 2, 0x77700000);
        traceIs(sky, "the next but one is barred", 16, 3, 4, 0);
        sky.board(0, 2, 2, 0x77700000);
        traceIs(sky, "the one before is barred", 16, 3, 4, 0);
        sky.board(0, 5, 2, 0x77600000);
        traceIs(sky, "the next is not quite barred", 16, 3, 4, 0);
        sky.echo(0, 5, 18, 7);
        traceIs(sky, "the next is barred", 16, 3, 4, 1);
        sky.board(1, 5, 2, 0x77700000);
        sky.echo(0, 5, 18, 0);
        DUE.is("of another board", sky.trace(0, 3), 0);
    }

    private static void traceRefusals() {
        DUE.sentence("Promise 8: NONE: no such BOARD");
        SkyEcho sky = new SkyEcho();
        for (int board = 0; board < 4; board++) {
            sky.echo(board, 5, 5, 9);
        }
        for (int what = 0; what < 4; what++) {
            DUE.is("board 3", sky.trace(3, what), new int[] {15, 3, 5, 0}[what]);
            for (int board : Due.outside(0, 3)) {
                DUE.is("board " + board, sky.trace(board, what), -1);
            }
        }
        DUE.sentence("Promise 8: NONE: .. or for another what");
        for (int what : Due.outside(0, 3)) {
            DUE.is("what " + what, sky.trace(0, what), -1);
        }
        DUE.sentence("Promise 8: NONE: there is none");
        sky.blank(0);
        noTrace(sky, "a blank board");
    }

    private static void asTheBoardIsNow() {
        DUE.sentence("Promise 8: Of THE TRACE of a BOARD (as it is after each change)");
        SkyEcho sky = along(3, 5);
        traceIs(sky, "after echo", 8, 3, 3, 0);
        sky.board(0, 4, 0, 0x00000900);
        traceIs(sky, "after board", 16, 3, 4, 0);
        sky.shift(1);
        traceIs(sky, "after shift", 9 + 18 + 9 - 3, 2, 4, 0);
        sky.noise(9, 1);
        noTrace(sky, "after noise");
        sky.noise(9, 2);
        traceIs(sky, "after another noise", 33, 2, 4, 0);
        DUE.is("noise 0", sky.noise(0, 1), false);
        DUE.is("shift 0", sky.shift(0), false);
        DUE.is("echo 10", sky.echo(0, 4, 5, 10), false);
        traceIs(sky, "after refused calls", 33, 2, 4, 0);
        sky.echo(1, 4, 5, 9);
        DUE.is("another board", sky.trace(1, 0), 16);
        traceIs(sky, "after another board was told and asked", 33, 2, 4, 0);
        sky.blank(1);
        traceIs(sky, "after blank of another board", 33, 2, 4, 0);
        DUE.is("another board", sky.trace(1, 0), -1);
        sky.blank(0);
        noTrace(sky, "after blank");
    }

    private static void heightRefusals() {
        DUE.sentence("Promise 9: NONE: it is not there");
        SkyEcho sky = along(3, 5, 6, 7);
        heightsAre(sky, "there and not there", 3, 5, 6, 7);
        for (int tone : Due.outside(0, LAST_TONE)) {
            DUE.is("tone " + tone, sky.height(0, tone), -1);
        }
        SkyEcho all = plainSky();
        for (int tone = 0; tone <= LAST_TONE; tone++) {
            all.echo(3, tone, 0, 9);
        }
        DUE.is("the first tone", all.height(3, 0), 0);
        DUE.is("the last tone", all.height(3, LAST_TONE), 0);
        DUE.is("before the first tone", all.height(3, -1), -1);
        DUE.is("after the last tone", all.height(3, LAST_TONE + 1), -1);
        DUE.sentence("Promise 9: NONE: .. there is none");
        DUE.is("an empty board", sky.height(1, 3), -1);
        DUE.sentence("Promise 9: NONE: .. or no such BOARD");
        for (int board : Due.outside(0, 3)) {
            DUE.is("board " + board, sky.height(board, 3), -1);
        }
    }

    private static void undoneRefusals() {
        DUE.sentence("Promise 10: NONE: there is none, or no such BOARD");
        SkyEcho sky = along(3, 5, 6, 7);
        DUE.is("all of three", sky.undone(0), 3);
        DUE.is("an empty board", sky.undone(3), -1);
        for (int board : Due.outside(0, 3)) {
            DUE.is("board " + board, sky.undone(board), -1);
        }
    }

    private static void placeRefusals() {
        DUE.sentence("Promise 11: NONE: it is not undone");
        SkyEcho sky = along(3, 5, 6, 6, 5, 9);
        DUE.is("undone", sky.undone(0), 3);
        for (int what = 0; what < 3; what++) {
            for (int i : Due.outside(0, 2)) {
                DUE.is("place " + i, sky.place(0, i, what), -1);
            }
            DUE.is("the last place of the trace", sky.place(0, 4, what), -1);
            DUE.is("an empty board", sky.place(1, 0, what), -1);
            for (int board : Due.outside(0, 3)) {
                DUE.is("board " + board, sky.place(board, 0, what), -1);
            }
        }
        DUE.sentence("Promise 11: NONE: .. or for another what");
        for (int what : Due.outside(0, 2)) {
            DUE.is("what " + what, sky.place(0, 0, what), -1);
        }
    }

    private static void placesAre(SkyEcho sky, int i, int step, int trueHeight, int again) {
        DUE.is("step " + i, sky.place(0, i, 0), step);
        DUE.is("true height " + i, sky.place(0, i, 1), trueHeight);
        DUE.is("again " + i, sky.place(0, i, 2), again);
    }

    private static void firstSteps() {
        DUE.sentence("Term 3: place 0 has V = 100000 * (HEIGHT there + 1), by 100");
        placesAre(along(0, 0), 0, 1000, 1000, 0);
        placesAre(along(0, LAST_HEIGHT), 0, 32000, 32000, LAST_HEIGHT);
    }

    private static void stepsThatAreCut() {
        DUE.sentence("Term 3: (100 + 100 * j / (i + 1), cut); STEP i is what is left by (..), cut");
        // 200000 / 150; then (500000 - 100000 - 133 * 1333) / 166, as 100 / 3 and 200 / 3 are cut.
        SkyEcho sky = along(0, 0, 2, 4);
        placesAre(sky, 0, 1000, 1000, 0);
        placesAre(sky, 1, 1333, 2333, 1);
        placesAre(sky, 2, 1341, 3674, 3);
    }

    private static void noStepAboveNothing() {
        DUE.sentence("Term 3: They can be undone as long as each STEP is above 0");
        DUE.is("a step of 0", along(0, 7, 7).undone(0), 1);
        DUE.is("a step below 0", along(0, 7, 6).undone(0), 1);
        DUE.is("a step of 0 at the ground", along(0, 0, 0).undone(0), 1);
        DUE.is("later ones do not count", along(0, 7, 7, 10, 13).undone(0), 1);
        DUE.is("nor after one below 0", along(0, 7, 10, 9, 12).undone(0), 2);
        DUE.is("one place alone", along(0, 7).undone(0), 1);
    }

    /** From a HEIGHT one up and then straight on to the last TONE: the STEPS become as small as 1. */
    private static void stepsDownToOne() {
        DUE.sentence("Term 3: .. each STEP is above 0 (1 is), at all 24 places");
        int[] steps = {5000, 666, 68, 37, 25, 21, 14, 11, 9, 7, 7, 7, 6, 3, 6, 3, 5, 2, 2, 1, 6, 1, 2, 1};
        SkyEcho sky = plainSky();
        sky.echo(0, 0, 4, 9);
        sky.echo(0, 8, 4, 9);
        for (int tone = 1; tone <= LAST_TONE; tone++) {
            sky.echo(0, tone, 5, 9);
        }
        DUE.is("first height", sky.height(0, 0), 4);
        DUE.is("second height", sky.height(0, 1), 5);
        DUE.is("last height", sky.height(0, LAST_TONE), 5);
        DUE.is("all are undone", sky.undone(0), 24);
        int sum = 0;
        for (int i = 0; i < steps.length; i++) {
            sum += steps[i];
            placesAre(sky, i, steps[i], sum, 4);
        }
        DUE.is("no place 24", sky.place(0, 24, 0), -1);
    }

    private static void madeAgain() {
        DUE.sentence("Term 3: for what was undone that is the HEIGHT or one less");
        SkyEcho whole = along(0, 28, LAST_HEIGHT);
        placesAre(whole, 0, 29000, 29000, 28);
        placesAre(whole, 1, 2000, 31000, LAST_HEIGHT);
        SkyEcho less = along(0, 30, LAST_HEIGHT);
        placesAre(less, 0, 31000, 31000, 30);
        placesAre(less, 1, 666, 31666, 30);
        SkyEcho ground = along(0, 0, 1);
        placesAre(ground, 1, 666, 1666, 0);
    }

    public static void main(String[] args) {
        oneToneAndAllTones();
        heightOfGaps();
        threeAtMost();
        noWayRound();
        endsNotBarred();
        barredEndsWithTheShifted();
        throughBarredTones();
        worthWithoutTheShifted();
        sameHeight();
        worthAtBarredTones();
        worthOfTraces();
        greatestWorth();
        leastFirstTone();
        leastLastTone();
        leastHeights();
        worthAboveNothing();
        letterAtTheLastTone();
        letterBeforeABarredTone();
        traceRefusals();
        asTheBoardIsNow();
        heightRefusals();
        undoneRefusals();
        placeRefusals();
        firstSteps();
        stepsThatAreCut();
        noStepAboveNothing();
        stepsDownToOne();
        madeAgain();
        DUE.end();
    }
}
