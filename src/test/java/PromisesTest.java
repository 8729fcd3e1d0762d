/** Each promise of the document by hand: ordinary inputs, the edges that it names, and wrong inputs. */
public final class PromisesTest {
    private static final int[] WILD = {Integer.MIN_VALUE, -1000000, -1, 1000000, Integer.MAX_VALUE};

    private static int wrong = 0;
    private static int promise = 0;

    private static void due(String what, int got, int want) {
        if (got != want) {
            wrong++;
            System.out.println("promise " + promise + ": " + what + " answered " + got + ", due is " + want);
        }
    }

    private static void due(String what, boolean got, boolean want) {
        due(what, got ? 1 : 0, want ? 1 : 0);
    }

    private static void newObject() {
        promise = 1;
        SkyEcho sky = new SkyEcho();
        int[] counts = {0, 3, 20, 2, 0, 0};
        for (int what = 0; what < counts.length; what++) {
            due("count " + what, sky.count(what), counts[what]);
        }
        for (int board = 0; board < 4; board++) {
            due("no barred tones", sky.count(10 + board), 0);
            due("no trace", sky.trace(board, 0), -1);
            due("no echo", sky.tell(board, 23, 31, 0), 0);
        }
        for (int hour = 0; hour < 24; hour++) {
            due("empty hour", sky.middle(hour, 2), 0);
        }
        due("missing", sky.table(0, 0, 0), -1);
        due("no station", sky.map(0, 0), -1);
        for (int k = 0; k < 3; k++) {
            due("no image", sky.again(k), false);
        }
    }

    private static void boards() {
        promise = 2;
        SkyEcho sky = new SkyEcho();
        due("board", sky.board(3, 23, 3, 0x12345678), true);
        for (int i = 0; i < 8; i++) {
            due("half byte " + i, sky.tell(3, 23, 24 + i, 0), i + 1);
        }
        due("the height before stays", sky.tell(3, 23, 23, 0), 0);
        due("another board stays", sky.tell(2, 23, 24, 0), 0);
        due("all nines", sky.board(0, 0, 0, 0x99999999), true);
        due("the first", sky.tell(0, 0, 0, 0), 9);
        due("the eighth", sky.tell(0, 0, 7, 0), 9);
        due("the ninth is another part's", sky.tell(0, 0, 8, 0), 0);
        for (int i = 0; i < 8; i++) {
            due("a half byte of 10", sky.board(3, 23, 3, 10 << (4 * i)), false);
        }
        due("a half byte of 15", sky.board(3, 23, 3, -1), false);
        due("nothing changed", sky.tell(3, 23, 31, 0), 8);
        due("written over", sky.board(3, 23, 3, 0x90000000), true);
        due("the first of them", sky.tell(3, 23, 24, 0), 9);
        due("the last of them", sky.tell(3, 23, 31, 0), 0);
        due("board 4", sky.board(4, 0, 0, 0), false);
        due("tone 24", sky.board(0, 24, 0, 0), false);
        due("part 4", sky.board(0, 0, 4, 0), false);
        for (int wild : WILD) {
            due("wild board", sky.board(wild, 0, 0, 0), false);
            due("wild tone", sky.board(0, wild, 0, 0), false);
            due("wild part", sky.board(0, 0, wild, 0), false);
        }
        due("still there", sky.tell(0, 0, 0, 0), 9);
    }

    private static void echoes() {
        promise = 3;
        SkyEcho sky = new SkyEcho();
        due("echo", sky.echo(1, 2, 31, 9), true);
        due("told", sky.tell(1, 2, 31, 0), 9);
        due("beside it", sky.tell(1, 2, 30, 0), 0);
        due("echo beside it", sky.echo(1, 2, 30, 5), true);
        due("still told", sky.tell(1, 2, 31, 0), 9);
        due("back to 0", sky.echo(1, 2, 31, 0), true);
        due("told 0", sky.tell(1, 2, 31, 0), 0);
        due("still beside it", sky.tell(1, 2, 30, 0), 5);
        due("echo 10", sky.echo(1, 2, 30, 10), false);
        due("board 4", sky.echo(4, 2, 30, 1), false);
        due("tone 24", sky.echo(1, 24, 30, 1), false);
        due("height 32", sky.echo(1, 2, 32, 1), false);
        for (int wild : WILD) {
            due("wild board", sky.echo(wild, 2, 30, 1), false);
            due("wild tone", sky.echo(1, wild, 30, 1), false);
            due("wild height", sky.echo(1, 2, wild, 1), false);
            due("wild echo", sky.echo(1, 2, 30, wild), false);
        }
        due("nothing changed", sky.tell(1, 2, 30, 0), 5);
    }

    private static void blanks() {
        promise = 4;
        SkyEcho sky = new SkyEcho();
        sky.noise(1, 1);
        for (int board = 0; board < 4; board++) {
            sky.echo(board, 0, 0, 4);
            sky.echo(board, 23, 31, 5);
        }
        due("blank", sky.blank(2), true);
        due("first echo", sky.tell(2, 0, 0, 0), 0);
        due("last echo", sky.tell(2, 23, 31, 0), 0);
        due("none barred", sky.count(12), 0);
        due("the board before", sky.tell(1, 23, 31, 0), 5);
        due("the board after", sky.tell(3, 0, 0, 0), 4);
        due("its barred tones", sky.count(13), 2);
        due("again empty", sky.blank(2), true);
        due("board 4", sky.blank(4), false);
        for (int wild : WILD) {
            due("wild board", sky.blank(wild), false);
        }
    }

    private static void noises() {
        promise = 5;
        SkyEcho sky = new SkyEcho();
        for (int part = 0; part < 4; part++) {
            sky.board(0, 7, part, part == 2 ? 0x33322222 : part == 3 ? 0 : 0x33333333);
        }
        due("19 of them do not bar", sky.tell(0, 7, 0, 2), 0);
        sky.echo(0, 7, 31, 3);
        due("20 of them bar", sky.tell(0, 7, 0, 2), 1);
        due("noise 4", sky.noise(4, 20), true);
        due("too weak for 4", sky.tell(0, 7, 0, 2), 0);
        due("noise 2", sky.noise(2, 25), true);
        due("25 are 2 or more", sky.tell(0, 7, 0, 2), 1);
        due("noise 2 of 26", sky.noise(2, 26), true);
        due("not 26", sky.tell(0, 7, 0, 2), 0);
        due("edges", sky.noise(9, 32), true);
        due("strength", sky.count(1), 9);
        due("number", sky.count(2), 32);
        due("edges", sky.noise(1, 1), true);
        due("strength 10", sky.noise(10, 5), false);
        due("strength 0", sky.noise(0, 5), false);
        due("number 33", sky.noise(5, 33), false);
        due("number 0", sky.noise(5, 0), false);
        for (int wild : WILD) {
            due("wild strength", sky.noise(wild, 1), false);
            due("wild number", sky.noise(1, wild), false);
        }
        due("strength stays", sky.count(1), 1);
        due("number stays", sky.count(2), 1);
    }

    private static void shifts() {
        promise = 6;
        SkyEcho sky = new SkyEcho();
        sky.echo(0, 8, 3, 7);
        for (int tones = 1; tones <= 8; tones++) {
            due("shift", sky.shift(tones), true);
            due("shift told", sky.count(3), tones);
            due("worth so far before", sky.tell(0, 8 - tones, 3, 1), 7);
        }
        due("shift 0", sky.shift(0), false);
        due("shift 9", sky.shift(9), false);
        for (int wild : WILD) {
            due("wild shift", sky.shift(wild), false);
        }
        due("shift stays", sky.count(3), 8);
    }

    private static void tells() {
        promise = 7;
        SkyEcho sky = new SkyEcho();
        sky.echo(0, 10, 4, 6);
        sky.echo(0, 12, 4, 5);
        sky.echo(0, 23, 4, 8);
        due("both kinds", sky.tell(0, 10, 4, 1), 11);
        due("only its own", sky.tell(0, 12, 4, 1), 5);
        due("only the shifted one", sky.tell(0, 8, 4, 1), 6);
        due("another height", sky.tell(0, 10, 5, 1), 0);
        due("none so far on", sky.tell(0, 23, 4, 1), 8);
        due("the last with a shifted one", sky.tell(0, 21, 4, 1), 8);
        sky.noise(6, 1);
        due("barred", sky.tell(0, 10, 31, 2), 1);
        due("its echo stays", sky.tell(0, 10, 4, 0), 6);
        due("a barred tone has the shifted one", sky.tell(0, 10, 4, 1), 5);
        due("nothing from a barred tone", sky.tell(0, 8, 4, 1), 0);
        due("not barred", sky.tell(0, 12, 0, 2), 0);
        for (int what = 0; what < 3; what++) {
            due("board 4", sky.tell(4, 0, 0, what), -1);
            due("tone 24", sky.tell(0, 24, 0, what), -1);
            due("height 32", sky.tell(0, 0, 32, what), -1);
            for (int wild : WILD) {
                due("wild board", sky.tell(wild, 0, 0, what), -1);
                due("wild tone", sky.tell(0, wild, 0, what), -1);
                due("wild height", sky.tell(0, 0, wild, what), -1);
            }
        }
        due("what 3", sky.tell(0, 0, 0, 3), -1);
        due("what -1", sky.tell(0, 0, 0, -1), -1);
    }

    private static void traceIs(SkyEcho sky, String what, int... want) {
        for (int i = 0; i < want.length; i++) {
            due(what + ", trace " + i, sky.trace(0, i), want[i]);
        }
    }

    private static void traces() {
        promise = 8;
        SkyEcho sky = new SkyEcho();
        sky.shift(8);
        sky.echo(0, 0, 0, 1);
        traceIs(sky, "worth 0 is none", -1, -1, -1, -1);
        sky.echo(0, 0, 0, 2);
        traceIs(sky, "worth 1", 1, 0, 0, 0);
        sky.echo(0, 0, 0, 0);
        sky.echo(0, 4, 9, 5);
        sky.echo(0, 2, 9, 5);
        traceIs(sky, "over a gap", 7, 2, 4, 0);
        sky.echo(0, 3, 12, 7);
        traceIs(sky, "up three and down three", 8, 2, 4, 0);
        due("the height above", sky.height(0, 3), 12);
        sky.echo(0, 3, 12, 6);
        traceIs(sky, "as much by the straight way", 7, 2, 4, 0);
        due("the least height", sky.height(0, 3), 9);
        sky.echo(0, 3, 12, 0);
        sky.echo(0, 3, 13, 9);
        traceIs(sky, "four up is too far at once", 8, 3, 3, 0);
        sky.blank(0);
        sky.echo(0, 3, 5, 4);
        sky.echo(0, 20, 5, 4);
        traceIs(sky, "the least first tone", 3, 3, 3, 0);
        sky.echo(0, 4, 5, 1);
        traceIs(sky, "the least last tone", 3, 3, 3, 0);
        sky.echo(0, 4, 5, 0);
        sky.echo(0, 2, 5, 1);
        traceIs(sky, "the least first tone, longer", 3, 2, 3, 0);
        for (int what : new int[] {4, -1, Integer.MAX_VALUE, Integer.MIN_VALUE}) {
            due("another what", sky.trace(0, what), -1);
        }
        for (int wild : WILD) {
            due("wild board", sky.trace(wild, 0), -1);
        }
        due("board 4", sky.trace(4, 0), -1);
        due("an empty board", sky.trace(1, 0), -1);
    }

    private static void barredTraces() {
        SkyEcho sky = new SkyEcho();
        sky.noise(9, 1);
        sky.shift(1);
        sky.echo(0, 5, 10, 8);
        sky.echo(0, 6, 20, 9);
        traceIs(sky, "the next is barred", 14, 4, 5, 1);
        sky.echo(0, 7, 10, 8);
        traceIs(sky, "through a barred tone", 28, 4, 7, 0);
        sky.echo(0, 4, 31, 9);
        traceIs(sky, "no start at a barred tone", 27, 3, 7, 0);
        sky.echo(0, 8, 0, 9);
        traceIs(sky, "no end at a barred tone", 27, 3, 7, 1);
        sky.blank(0);
        sky.echo(0, 22, 3, 5);
        traceIs(sky, "last but one", 8, 21, 22, 0);
        sky.echo(0, 23, 3, 5);
        traceIs(sky, "23 is the last", 17, 21, 23, 1);
        sky.echo(0, 23, 4, 9);
        traceIs(sky, "23 is barred", 8, 21, 22, 1);
        sky.blank(0);
        for (int tone = 0; tone < 24; tone++) {
            sky.echo(0, tone, 0, 9);
        }
        traceIs(sky, "all barred", -1, -1, -1, -1);
        sky.blank(0);
        sky.shift(8);
        sky.echo(0, 3, 6, 9);
        sky.noise(9, 1);
        sky.echo(0, 2, 6, 5);
        sky.echo(0, 11, 6, 5);
        traceIs(sky, "worth at a barred tone, but no end there", 7, 2, 4, 0);
        sky.echo(0, 4, 6, 9);
        sky.echo(0, 5, 6, 9);
        traceIs(sky, "an end there would be worth 8", 5, 2, 6, 0);
    }

    private static void earlierEnds() {
        SkyEcho sky = new SkyEcho();
        sky.shift(8);
        sky.echo(0, 3, 2, 4);
        sky.echo(0, 4, 2, 1);
        sky.echo(0, 3, 20, 4);
        traceIs(sky, "a tone that adds nothing is left away", 3, 3, 3, 0);
        sky.blank(0);
        // Low: 5 + 3 + 2 at three tones; high: 5 + 4 at two of them. Both are worth 7.
        sky.echo(0, 3, 2, 5);
        sky.echo(0, 4, 2, 3);
        sky.echo(0, 5, 2, 2);
        sky.echo(0, 3, 20, 5);
        sky.echo(0, 4, 20, 4);
        traceIs(sky, "the earlier end before the lower height", 7, 3, 4, 0);
        due("the height of the earlier end", sky.height(0, 3), 20);
        sky.blank(0);
        // From height 10 either down one and on (4 - 1, then 3) or up one and no further (6 - 1).
        sky.echo(0, 0, 10, 5);
        sky.echo(0, 1, 9, 4);
        sky.echo(0, 2, 9, 3);
        sky.echo(0, 1, 11, 6);
        traceIs(sky, "the earlier end on the way", 8, 0, 1, 0);
        due("the way to the earlier end", sky.height(0, 1), 11);
    }

    private static void foundAnew() {
        SkyEcho sky = new SkyEcho();
        sky.echo(0, 9, 9, 9);
        traceIs(sky, "an echo", 15, 7, 9, 0);
        sky.board(0, 9, 1, 0x08000000);
        traceIs(sky, "after board", 13, 7, 9, 0);
        sky.shift(1);
        traceIs(sky, "after shift", 14, 8, 9, 0);
        sky.noise(8, 1);
        traceIs(sky, "after noise", -1, -1, -1, -1);
        sky.noise(9, 1);
        traceIs(sky, "after noise again", 14, 8, 9, 0);
        sky.blank(0);
        traceIs(sky, "after blank", -1, -1, -1, -1);
        sky.echo(1, 5, 5, 5);
        due("another board", sky.trace(1, 0), 8);
        due("and the first one", sky.trace(0, 0), -1);
    }

    private static void heights() {
        promise = 9;
        SkyEcho sky = new SkyEcho();
        sky.shift(8);
        sky.echo(0, 4, 31, 9);
        sky.echo(0, 5, 28, 9);
        sky.echo(0, 6, 30, 9);
        int[] want = {31, 28, 30};
        for (int i = 0; i < 3; i++) {
            due("height", sky.height(0, 4 + i), want[i]);
        }
        due("before it", sky.height(0, 3), -1);
        due("after it", sky.height(0, 7), -1);
        due("tone 24", sky.height(0, 24), -1);
        due("board 4", sky.height(4, 4), -1);
        due("no trace", sky.height(1, 4), -1);
        for (int wild : WILD) {
            due("wild tone", sky.height(0, wild), -1);
            due("wild board", sky.height(wild, 4), -1);
        }
        sky.blank(0);
        sky.echo(0, 0, 7, 9);
        sky.echo(0, 0, 5, 9);
        due("the least first height", sky.height(0, 0), 5);
        sky.blank(0);
        sky.echo(0, 0, 4, 5);
        sky.echo(0, 2, 6, 5);
        due("rises as late as it can", sky.height(0, 1), 4);
        due("and then is there", sky.height(0, 2), 6);
    }

    private static void undonePlaces() {
        promise = 10;
        SkyEcho sky = new SkyEcho();
        sky.shift(8);
        int[] heights = {2, 5, 8, 9, 8};
        for (int i = 0; i < heights.length; i++) {
            sky.echo(0, 3 + i, heights[i], 9);
        }
        due("the trace", sky.trace(0, 2), 7);
        due("undone", sky.undone(0), 4);
        sky.echo(0, 7, 8, 0);
        sky.echo(0, 7, 12, 9);
        due("all undone", sky.undone(0), 5);
        due("no trace", sky.undone(1), -1);
        due("board 4", sky.undone(4), -1);
        for (int wild : WILD) {
            due("wild board", sky.undone(wild), -1);
        }
        sky.echo(2, 0, 0, 9);
        due("one place", sky.undone(2), 1);
        sky.echo(2, 1, 0, 9);
        due("a step of 0 is not undone", sky.undone(2), 1);
        sky.echo(3, 0, 6, 9);
        sky.echo(3, 1, 5, 9);
        due("nor is one below 0", sky.undone(3), 1);
        promise = 11;
        // 3000; (600000 - 300000) / 150; (900000 - 300000 - 133 * 2000) / 166; and so on, by hand.
        int[] steps = {3000, 2000, 2012};
        int[] trueHeights = {3000, 5000, 7012};
        int[] again = {2, 5, 7};
        for (int i = 0; i < steps.length; i++) {
            due("step " + i, sky.place(0, i, 0), steps[i]);
            due("true height " + i, sky.place(0, i, 1), trueHeights[i]);
            due("made again " + i, sky.place(0, i, 2), again[i]);
        }
        due("beyond what is undone", sky.place(2, 1, 0), -1);
        due("beyond the trace", sky.place(0, 5, 0), -1);
        due("what 3", sky.place(0, 0, 3), -1);
        due("board 4", sky.place(4, 0, 0), -1);
        due("no trace", sky.place(1, 0, 0), -1);
        for (int wild : WILD) {
            due("wild board", sky.place(wild, 0, 0), -1);
            due("wild place", sky.place(0, wild, 0), -1);
            due("wild what", sky.place(0, 0, wild), -1);
        }
    }

    private static void values() {
        promise = 12;
        SkyEcho sky = new SkyEcho();
        due("value", sky.value(23, 30, 999, 2), true);
        due("value", sky.value(0, 0, 0, 0), true);
        due("letter", sky.table(23, 30, 1), 2);
        due("over it", sky.value(23, 30, 998, 1), true);
        due("told", sky.table(23, 30, 0), 998);
        due("its letter", sky.table(23, 30, 1), 1);
        due("hour 24", sky.value(24, 0, 1, 0), false);
        due("day 31", sky.value(0, 31, 1, 0), false);
        due("value 1000", sky.value(0, 0, 1000, 0), false);
        due("letter 3", sky.value(0, 0, 1, 3), false);
        for (int wild : WILD) {
            due("wild hour", sky.value(wild, 0, 1, 0), false);
            due("wild day", sky.value(0, wild, 1, 0), false);
            due("wild value", sky.value(0, 0, wild, 0), false);
            due("wild letter", sky.value(0, 0, 1, wild), false);
        }
        due("nothing changed", sky.table(0, 0, 0), 0);
        promise = 15;
        due("0 is not missing", sky.table(0, 0, 1), 0);
        due("missing", sky.table(0, 1, 0), -1);
        due("missing letter", sky.table(0, 1, 1), -1);
        due("what 2", sky.table(0, 0, 2), -1);
        due("hour 24", sky.table(24, 0, 0), -1);
        due("day 31", sky.table(0, 31, 0), -1);
        for (int wild : WILD) {
            due("wild hour", sky.table(wild, 0, 0), -1);
            due("wild day", sky.table(0, wild, 0), -1);
            due("wild what", sky.table(0, 0, wild), -1);
        }
        promise = 14;
        due("miss", sky.miss(23, 30), true);
        due("missing now", sky.table(23, 30, 0), -1);
        due("miss it twice", sky.miss(23, 30), true);
        due("hour 24", sky.miss(24, 0), false);
        due("day 31", sky.miss(0, 31), false);
        for (int wild : WILD) {
            due("wild hour", sky.miss(wild, 0), false);
            due("wild day", sky.miss(0, wild), false);
        }
        due("another stays", sky.table(0, 0, 0), 0);
    }

    private static void scales() {
        promise = 13;
        SkyEcho sky = new SkyEcho();
        sky.echo(3, 17, 2, 9);
        due("scale", sky.scale(3, 23, 30), true);
        due("the last tone", sky.table(23, 30, 0), 170);
        due("just that", sky.table(23, 30, 1), 0);
        sky.echo(3, 23, 2, 9);
        sky.echo(3, 22, 2, 9);
        sky.echo(3, 21, 2, 9);
        due("scale to the edge", sky.scale(3, 23, 30), true);
        due("tone 23", sky.table(23, 30, 0), 230);
        due("or more", sky.table(23, 30, 1), 1);
        due("board 4", sky.scale(4, 23, 30), false);
        due("hour 24", sky.scale(3, 24, 30), false);
        due("day 31", sky.scale(3, 23, 31), false);
        for (int wild : WILD) {
            due("wild board", sky.scale(wild, 23, 30), false);
            due("wild hour", sky.scale(3, wild, 30), false);
            due("wild day", sky.scale(3, 23, wild), false);
        }
        due("nothing changed", sky.table(23, 30, 0), 230);
        due("without a trace", sky.scale(0, 23, 30), true);
        due("missing now", sky.table(23, 30, 0), -1);
        sky.echo(0, 0, 0, 9);
        due("tone 0", sky.scale(0, 1, 1), true);
        due("0 is a value", sky.table(1, 1, 0), 0);
    }

    private static void middles() {
        promise = 16;
        SkyEcho sky = new SkyEcho();
        due("none, low", sky.middle(9, 0), -2);
        due("none, high", sky.middle(9, 1), -2);
        due("none, how many", sky.middle(9, 2), 0);
        sky.value(9, 30, 300, 0);
        sky.value(9, 3, 100, 0);
        due("of two the lower", sky.middle(9, 0), 100);
        due("of two the lower", sky.middle(9, 1), 100);
        sky.value(9, 4, 200, 0);
        due("of three the middle", sky.middle(9, 0), 200);
        sky.value(9, 30, 300, 2);
        due("300 or less, low", sky.middle(9, 0), 100);
        due("300 or less, high", sky.middle(9, 1), 200);
        sky.value(9, 3, 100, 1);
        due("100 or more, low", sky.middle(9, 0), 100);
        due("100 or more, high", sky.middle(9, 1), 300);
        sky.value(9, 4, 200, 2);
        due("anything less", sky.middle(9, 0), -1);
        due("high of these", sky.middle(9, 1), 300);
        sky.value(9, 4, 200, 1);
        due("low of these", sky.middle(9, 0), 100);
        due("anything more", sky.middle(9, 1), 1000);
        due("how many", sky.middle(9, 2), 3);
        due("another hour", sky.middle(8, 2), 0);
        for (int day = 0; day < 31; day++) {
            sky.value(23, day, 30 - day, 0);
        }
        due("all days", sky.middle(23, 2), 31);
        due("the sixteenth", sky.middle(23, 0), 15);
        due("hour 24", sky.middle(24, 0), -2);
        due("what 3", sky.middle(9, 3), -2);
        for (int wild : WILD) {
            due("wild what", sky.middle(9, wild), -2);
            for (int what = 0; what < 3; what++) {
                due("wild hour", sky.middle(wild, what), -2);
            }
        }
    }

    private static void farPlaces() {
        promise = 17;
        SkyEcho sky = new SkyEcho();
        due("three, four, five", sky.hops(6, 4, 4, 1), 5);
        due("just below a whole number", sky.hops(6, 4, 3, 1), 3);
        due("by two hops", sky.hops(12, 4, 4, 2), 5);
        due("the greatest", sky.hops(20000, 1, 1000, 1), 10000000);
        due("all at the top", sky.hops(20000, 1000, 1000, 5), 2236);
        due("all at the bottom", sky.hops(1, 1, 1, 1), 1);
        due("high and near", sky.hops(1, 1000, 1000, 5), 1000);
        int[][] outside = {{0, 1, 1, 1}, {20001, 1, 1, 1}, {1, 0, 1, 1}, {1, 1001, 1, 1},
            {1, 1, 0, 1}, {1, 1, 1001, 1}, {1, 1, 1, 0}, {1, 1, 1, 6}};
        for (int[] o : outside) {
            due("other numbers", sky.hops(o[0], o[1], o[2], o[3]), -1);
        }
        for (int wild : WILD) {
            due("wild distance", sky.hops(wild, 1, 1, 1), -1);
            due("wild height", sky.hops(1, wild, 1, 1), -1);
            due("wild tone", sky.hops(1, 1, wild, 1), -1);
            due("wild n", sky.hops(1, 1, 1, wild), -1);
        }
        promise = 18;
        due("one", sky.fewest(1, 20000), 1);
        due("just one", sky.fewest(3000, 3000), 1);
        due("a little over", sky.fewest(3001, 3000), 2);
        due("the part of a hop counts", sky.fewest(10, 3), 4);
        due("just five", sky.fewest(20000, 4000), 5);
        due("not by five", sky.fewest(20000, 3999), -1);
        due("a little over five", sky.fewest(16, 3), -1);
        due("the longest", sky.fewest(20000, 20000), 1);
        due("distance 20001", sky.fewest(20001, 20000), -1);
        due("length 20001", sky.fewest(1, 20001), -1);
        due("distance 0", sky.fewest(0, 1), -1);
        due("length 0", sky.fewest(1, 0), -1);
        for (int wild : WILD) {
            due("wild distance", sky.fewest(wild, 1), -1);
            due("wild length", sky.fewest(1, wild), -1);
        }
    }

    private static void stations() {
        promise = 19;
        SkyEcho sky = new SkyEcho();
        due("x 201", sky.station(201, 0, 0), -1);
        due("y 201", sky.station(0, 201, 0), -1);
        due("value 1000", sky.station(0, 0, 1000), -1);
        for (int wild : WILD) {
            due("wild x", sky.station(wild, 0, 0), -1);
            due("wild y", sky.station(0, wild, 0), -1);
            due("wild value", sky.station(0, 0, wild), -1);
        }
        due("none so far", sky.count(0), 0);
        due("first", sky.station(0, 0, 999), 0);
        due("second", sky.station(200, 200, 0), 1);
        due("one stands there", sky.station(200, 200, 5), -1);
        due("third", sky.station(0, 200, 999), 2);
        due("fourth", sky.station(200, 0, 0), 3);
        due("a fifth", sky.station(100, 100, 5), -1);
        due("four", sky.count(0), 4);
        promise = 21;
        due("there", sky.map(0, 200), 999);
        due("in the middle", sky.map(100, 100), 499);
        due("beside a station", sky.map(1, 0), 998);
        due("far from all, no overflow", sky.map(200, 199), 0);
        due("x 201", sky.map(201, 0), -1);
        due("y 201", sky.map(0, 201), -1);
        for (int wild : WILD) {
            due("wild x", sky.map(wild, 0), -1);
            due("wild y", sky.map(0, wild), -1);
        }
        promise = 20;
        due("tell", sky.tellStation(3, 999), true);
        due("told", sky.map(200, 0), 999);
        due("the middle now", sky.map(100, 100), 749);
        due("value 1000", sky.tellStation(3, 1000), false);
        due("station 4", sky.tellStation(4, 1), false);
        for (int wild : WILD) {
            due("wild station", sky.tellStation(wild, 1), false);
            due("wild value", sky.tellStation(3, wild), false);
        }
        due("it stays", sky.map(200, 0), 999);
        promise = 21;
        SkyEcho other = new SkyEcho();
        due("no stations", other.map(5, 5), -1);
        due("none to tell", other.tellStation(0, 1), false);
        other.station(0, 0, 7);
        due("one alone", other.map(200, 200), 7);
        other.station(3, 0, 10);
        // 7 / 1 and 10 / 4: (28 + 10) / 5 = 7.6
        due("cut", other.map(1, 0), 7);
        other.tellStation(0, 8);
        // (32 + 10) / 5 = 8.4; a whole one is not cut: (32 + 13) / 5 = 9
        due("cut", other.map(1, 0), 8);
        other.tellStation(1, 13);
        due("whole", other.map(1, 0), 9);
    }

    private static void counts() {
        promise = 22;
        SkyEcho sky = new SkyEcho();
        sky.value(0, 0, 5, 0);
        sky.value(23, 30, 5, 1);
        sky.value(11, 15, 5, 2);
        sky.station(1, 1, 1);
        sky.noise(4, 2);
        sky.shift(7);
        sky.board(1, 0, 0, 0x44000000);
        sky.board(1, 23, 3, 0x00000055);
        sky.board(1, 5, 1, 0x00000050);
        sky.board(3, 5, 1, 0x99999999);
        int[] want = {1, 4, 2, 7, 3, 2, -1, -1, -1, -1, 0, 2, 0, 1, -1};
        for (int what = 0; what < want.length; what++) {
            due("count " + what, sky.count(what), want[what]);
        }
        sky.miss(11, 15);
        due("one is missing", sky.count(4), 2);
        due("with its letter", sky.count(5), 1);
        for (int wild : WILD) {
            due("wild what", sky.count(wild), -1);
        }
    }

    private static void fill(SkyEcho sky, int i) {
        sky.blank(0);
        sky.echo(0, 5 + i, 3 + i, 4 + i);
        sky.noise(5 + i, 6 + i);
        sky.shift(3 + i);
        sky.value(2, 3, 100 + i, i);
    }

    private static void filledIs(SkyEcho sky, int i) {
        due("echo", sky.tell(0, 5 + i, 3 + i, 0), 4 + i);
        due("trace", sky.trace(0, 1), 2);
        due("its last tone", sky.trace(0, 2), 5 + i);
        due("its height", sky.height(0, 5 + i), 3 + i);
        due("its step", sky.place(0, 0, 0), 1000 * (4 + i));
        due("noise", sky.count(1), 5 + i);
        due("its number", sky.count(2), 6 + i);
        due("shift", sky.count(3), 3 + i);
        due("value", sky.table(2, 3, 0), 100 + i);
        due("letter", sky.table(2, 3, 1), i);
        due("stations", sky.count(0), i + 1);
    }

    private static void images() {
        promise = 23;
        SkyEcho sky = new SkyEcho();
        for (int i = 0; i < 3; i++) {
            fill(sky, i);
            sky.station(i, i, i);
            due("image", sky.image(i), true);
        }
        sky.blank(0);
        due("blank now", sky.trace(0, 0), -1);
        for (int wild : WILD) {
            due("wild image", sky.image(wild), false);
        }
        due("image 3", sky.image(3), false);
        promise = 24;
        for (int i : new int[] {2, 0, 1, 1, 2}) {
            due("again", sky.again(i), true);
            filledIs(sky, i);
        }
        due("what comes later", sky.tellStation(0, 500), true);
        sky.echo(0, 7, 5, 0);
        due("again once more", sky.again(2), true);
        filledIs(sky, 2);
        due("does not change an image", sky.map(0, 0), 0);
        due("an image over another", sky.image(0), true);
        sky.again(1);
        sky.again(0);
        filledIs(sky, 2);
        due("again 3", sky.again(3), false);
        for (int wild : WILD) {
            due("wild again", sky.again(wild), false);
        }
        filledIs(sky, 2);
        SkyEcho other = new SkyEcho();
        other.image(1);
        due("none made", other.again(0), false);
        other.noise(9, 1);
        other.echo(0, 0, 0, 9);
        due("barred", other.count(10), 1);
        due("back to a new one", other.again(1), true);
        due("none barred", other.count(10), 0);
        due("noise as at first", other.count(1), 3);
        other.station(10, 20, 5);
        other.image(0);
        other.again(1);
        other.station(30, 40, 6);
        other.again(0);
        due("a station where it stood", other.station(10, 20, 7), -1);
        due("and no other one", other.station(30, 40, 7), 1);
    }

    public static void main(String[] args) {
        newObject();
        boards();
        echoes();
        blanks();
        noises();
        shifts();
        tells();
        traces();
        barredTraces();
        earlierEnds();
        foundAnew();
        heights();
        undonePlaces();
        values();
        scales();
        middles();
        farPlaces();
        stations();
        counts();
        images();
        System.out.println(wrong == 0 ? "all promises are kept" : wrong + " answers are not as due");
        if (wrong != 0) {
            System.exit(1);
        }
    }
}
