/** The boundary cases of counts and images, promises 22 to 24, and of an object's 512 calls. */
public final class StateBoundaryTest {
    private static final Due DUE = new Due();
    private static final int CALLS = 512;

    private static void countWhats() {
        DUE.sentence("Promise 22: 0 STATIONS, 1 NOISE, 2 its number, 3 SHIFT, 4 VALUES .., 5 ..; 10 .. 13");
        SkyEcho sky = new SkyEcho();
        sky.noise(8, 1);
        sky.shift(7);
        for (int board = 0; board < 4; board++) {
            for (int tone = 0; tone <= board; tone++) {
                sky.echo(board, 23 - tone, 0, 8);
            }
        }
        sky.station(1, 1, 1);
        sky.station(2, 2, 2);
        sky.value(0, 0, 0, 0);
        sky.value(0, 1, 0, 1);
        sky.value(23, 30, 999, 2);
        int[] want = {2, 8, 1, 7, 3, 2, -1, -1, -1, -1, 1, 2, 3, 4};
        for (int what = 0; what < want.length; what++) {
            DUE.is("count " + what, sky.count(what), want[what]);
        }
        DUE.sentence("Promise 22: NONE for another what");
        for (int what = 6; what <= 9; what++) {
            DUE.is("count " + what, sky.count(what), -1);
        }
        for (int what : Due.outside(0, 13)) {
            DUE.is("count " + what, sky.count(what), -1);
        }
        for (int what : Due.outside(10, 13)) {
            DUE.is("count " + what, sky.count(what), -1);
        }
    }

    private static void countsOfTheTable() {
        DUE.sentence("Promise 22: 4 VALUES of THE TABLE that are not missing, 5 those with LETTER 1 or 2");
        SkyEcho sky = new SkyEcho();
        for (int i = 0; i < 3; i++) {
            for (int hour = 0; hour < 24; hour++) {
                sky.value(hour, 15 * i, hour, i);
            }
        }
        DUE.is("three of each hour", sky.count(4), 72);
        DUE.is("two of them with letters", sky.count(5), 48);
        sky.value(0, 0, 0, 2);
        DUE.is("another letter, no other value", sky.count(4), 72);
        DUE.is("one more with a letter", sky.count(5), 49);
        sky.miss(23, 30);
        DUE.is("one is missing", sky.count(4), 71);
        DUE.is("with its letter", sky.count(5), 48);
        sky.scale(0, 23, 15);
        DUE.is("another one without a trace", sky.count(4), 70);
        DUE.is("with its letter, too", sky.count(5), 47);
    }

    /** Told of everything once, in a way of its own for each number. */
    private static void tellAll(SkyEcho sky, int i) {
        for (int board = 0; board < 4; board++) {
            sky.blank(board);
            sky.echo(board, 3 + i, 9 + i, 5 + i);
            sky.board(board, 12 + i, 1, 0x77777777);
        }
        sky.noise(5 + i, 1 + 2 * i);
        sky.shift(4 + i);
        sky.value(0, 0, 100 + i, i % 3);
        sky.value(23, 30, 200 + i, (i + 1) % 3);
        for (int station = 0; station <= i; station++) {
            sky.station(10 * station, i, 1);
            sky.tellStation(station, 300 + i);
        }
    }

    private static void allIs(SkyEcho sky, int i) {
        for (int board = 0; board < 4; board++) {
            DUE.is("echo of " + i, sky.tell(board, 3 + i, 9 + i, 0), 5 + i);
            DUE.is("noise echo of " + i, sky.tell(board, 12 + i, 15, 0), 7);
            DUE.is("barred of " + i, sky.count(10 + board), i == 0 ? 2 : 1);
        }
        DUE.is("another echo of " + i, sky.tell(0, 4 + i, 10 + i, 0), 0);
        int[] want = {i + 1, 5 + i, 1 + 2 * i, 4 + i, 2};
        for (int what = 0; what < want.length; what++) {
            DUE.is("count " + what + " of " + i, sky.count(what), want[what]);
        }
        DUE.is("value of " + i, sky.table(0, 0, 0), 100 + i);
        DUE.is("letter of " + i, sky.table(0, 0, 1), i % 3);
        DUE.is("last value of " + i, sky.table(23, 30, 0), 200 + i);
        DUE.is("last letter of " + i, sky.table(23, 30, 1), (i + 1) % 3);
        DUE.is("map of " + i, sky.map(10 * i, 0), 300 + i);
        DUE.is("one stands there of " + i, sky.station(10 * i, i, 5), -1);
    }

    /** Each is told from nothing on, as STATIONS never go away but by an image. */
    private static SkyEcho withThreeImages() {
        SkyEcho sky = new SkyEcho();
        sky.image(2);
        for (int i = 0; i < 2; i++) {
            sky.again(2);
            tellAll(sky, i);
            DUE.is("image " + i, sky.image(i), true);
        }
        sky.again(2);
        tellAll(sky, 2);
        DUE.is("image 2", sky.image(2), true);
        return sky;
    }

    private static void imagesOfAll() {
        DUE.sentence("Promise 23: Image k (0 .. 2) is all that is told, as it is now: true");
        SkyEcho sky = withThreeImages();
        allIs(sky, 2);
        for (int k = 0; k < 3; k++) {
            DUE.is("again " + k, sky.again(k), true);
            allIs(sky, k);
        }
        DUE.sentence("Promise 23: .. as it is now (one made anew is another)");
        sky.again(0);
        DUE.is("over the last", sky.image(2), true);
        sky.again(1);
        sky.again(2);
        allIs(sky, 0);
    }

    private static void imageRefusals() {
        DUE.sentence("Promise 23: false for another k");
        SkyEcho sky = new SkyEcho();
        for (int k : Due.outside(0, 2)) {
            DUE.is("image " + k, sky.image(k), false);
        }
        for (int k = 0; k < 3; k++) {
            DUE.is("none was made", sky.again(k), false);
        }
        SkyEcho made = withThreeImages();
        made.again(0);
        for (int k : Due.outside(0, 2)) {
            DUE.is("image " + k, made.image(k), false);
        }
        allIs(made, 0);
        made.again(2);
        allIs(made, 2);
    }

    private static void againKeepsImages() {
        DUE.sentence("Promise 24: All that is as image k has it (other images stay)");
        SkyEcho sky = withThreeImages();
        for (int k : new int[] {1, 0, 0, 2, 1}) {
            DUE.is("again " + k, sky.again(k), true);
            allIs(sky, k);
            tellMore(sky);
        }
    }

    /** What an image would take on, too, if it were held together with what is told now. */
    private static void tellMore(SkyEcho sky) {
        for (int board = 0; board < 4; board++) {
            sky.blank(board);
        }
        sky.noise(9, 32);
        sky.shift(1);
        sky.miss(0, 0);
        sky.value(23, 30, 1, 0);
        sky.tellStation(0, 999);
        sky.station(150, 150, 999);
    }

    private static void againRefusals() {
        DUE.sentence("Promise 24: false if there is none such");
        SkyEcho sky = new SkyEcho();
        for (int i = 0; i < 3; i++) {
            DUE.is("not made " + i, sky.again(i), false);
        }
        tellAll(sky, 1);
        sky.image(1);
        tellMore(sky);
        DUE.is("not made 0", sky.again(0), false);
        DUE.is("not made 2", sky.again(2), false);
        for (int k : Due.outside(0, 2)) {
            DUE.is("again " + k, sky.again(k), false);
        }
        DUE.is("as it was: noise", sky.count(1), 9);
        DUE.is("as it was: stations", sky.count(0), 3);
        DUE.is("as it was: values", sky.count(4), 1);
        DUE.is("made 1", sky.again(1), true);
        allIs(sky, 1);
    }

    private static void againWithTheTrace() {
        DUE.sentence("Promise 24: All that is as image k has it (THE TRACE is, too)");
        SkyEcho sky = new SkyEcho();
        sky.shift(8);
        sky.echo(0, 4, 6, 9);
        sky.image(0);
        sky.echo(0, 5, 7, 9);
        sky.image(1);
        int[][] want = {{8, 4, 4, 0}, {15, 4, 5, 0}};
        for (int k : new int[] {0, 1, 0}) {
            sky.again(k);
            for (int what = 0; what < 4; what++) {
                DUE.is("trace " + what + " of " + k, sky.trace(0, what), want[k][what]);
            }
            DUE.is("height of " + k, sky.height(0, 5), k == 0 ? -1 : 7);
            DUE.is("undone of " + k, sky.undone(0), k + 1);
            DUE.is("place of " + k, sky.place(0, 1, 0), k == 0 ? -1 : 666);
        }
    }

    private static void imageOfNothing() {
        DUE.sentence("Promise 24: All that is as image k has it (of a new object: nothing)");
        SkyEcho sky = new SkyEcho();
        sky.image(0);
        tellAll(sky, 2);
        DUE.is("again", sky.again(0), true);
        int[] want = {0, 3, 20, 2, 0, 0};
        for (int what = 0; what < want.length; what++) {
            DUE.is("count " + what, sky.count(what), want[what]);
        }
        DUE.is("no echo", sky.tell(0, 5, 11, 0), 0);
        DUE.is("no trace", sky.trace(0, 0), -1);
        DUE.is("no station", sky.map(0, 0), -1);
        DUE.is("the first station again", sky.station(0, 2, 5), 0);
    }

    private static void allCalls() {
        DUE.sentence("An object is used for at most 512 calls after it has been made");
        SkyEcho sky = new SkyEcho();
        sky.shift(8);
        for (int call = 2; call < CALLS; call += 2) {
            int echo = 1 + call % 9;
            sky.echo(3, 5, 5, echo);
            DUE.is("call " + (call + 1), sky.trace(3, 0), echo == 1 ? -1 : echo - 1);
        }
        DUE.is("the last call", sky.count(3), 8);
    }

    public static void main(String[] args) {
        countWhats();
        countsOfTheTable();
        imagesOfAll();
        imageRefusals();
        againKeepsImages();
        againRefusals();
        againWithTheTrace();
        imageOfNothing();
        allCalls();
        DUE.end();
    }
}
