/** The boundary cases of what is told to BOARDS: the first part of term 1, promises 1 to 7. */
public final class BoardsBoundaryTest {
    private static final Due DUE = new Due();
    private static final int LAST_BOARD = 3;
    private static final int LAST_TONE = 23;
    private static final int LAST_HEIGHT = 31;

    /** A SkyEcho whose TONE 5 of BOARD 0 has so many ECHOES of a strength, from HEIGHT 0 on. */
    private static SkyEcho withEchoes(int many, int strength) {
        SkyEcho sky = new SkyEcho();
        for (int height = 0; height < many; height++) {
            sky.echo(0, 5, height, strength);
        }
        return sky;
    }

    private static void fillTone(SkyEcho sky, int board, int tone, int eight) {
        for (int part = 0; part < 4; part++) {
            sky.board(board, tone, part, eight);
        }
    }

    private static void boardsTonesAndHeights() {
        DUE.sentence("Term 1: BOARDS are 0 .. 3; a BOARD has for each TONE, 0 .. 23, and HEIGHT, 0 .. 31, an ECHO");
        SkyEcho sky = new SkyEcho();
        for (int board = 0; board <= LAST_BOARD; board++) {
            DUE.is("first corner", sky.echo(board, 0, 0, 1 + board), true);
            DUE.is("second corner", sky.echo(board, 0, LAST_HEIGHT, 2 + board), true);
            DUE.is("third corner", sky.echo(board, LAST_TONE, 0, 3 + board), true);
            DUE.is("fourth corner", sky.echo(board, LAST_TONE, LAST_HEIGHT, 4 + board), true);
        }
        for (int board = 0; board <= LAST_BOARD; board++) {
            DUE.is("first corner", sky.tell(board, 0, 0, 0), 1 + board);
            DUE.is("second corner", sky.tell(board, 0, LAST_HEIGHT, 0), 2 + board);
            DUE.is("third corner", sky.tell(board, LAST_TONE, 0, 0), 3 + board);
            DUE.is("fourth corner", sky.tell(board, LAST_TONE, LAST_HEIGHT, 0), 4 + board);
            DUE.is("beside the first", sky.tell(board, 0, 1, 0), 0);
            DUE.is("after the second", sky.tell(board, 1, 0, 0), 0);
            DUE.is("before the third", sky.tell(board, LAST_TONE - 1, LAST_HEIGHT, 0), 0);
            DUE.is("beside the fourth", sky.tell(board, LAST_TONE, LAST_HEIGHT - 1, 0), 0);
        }
    }

    private static void echoesFromNothingToNine() {
        DUE.sentence("Term 1: an ECHO, 0 .. 9 (0 at first)");
        SkyEcho sky = new SkyEcho();
        DUE.is("at first", sky.tell(0, 5, 5, 0), 0);
        for (int echo = 9; echo >= 0; echo--) {
            DUE.is("echo " + echo, sky.echo(0, 5, 5, echo), true);
            DUE.is("told " + echo, sky.tell(0, 5, 5, 0), echo);
        }
    }

    private static void noiseAtFirst() {
        DUE.sentence("Term 1: NOISE is 1 .. 9 and a number, 1 .. 32 (3 and 20 at first)");
        SkyEcho sky = new SkyEcho();
        DUE.is("strength", sky.count(1), 3);
        DUE.is("number", sky.count(2), 20);
        DUE.is("19 of 3", withEchoes(19, 3).count(10), 0);
        DUE.is("20 of 3", withEchoes(20, 3).count(10), 1);
        DUE.is("32 of 2", withEchoes(32, 2).count(10), 0);
    }

    private static void asManyOrMore() {
        DUE.sentence("Term 1: a TONE is BARRED if as many of its ECHOES as this number, or more");
        for (int number = 1; number <= 32; number++) {
            SkyEcho sky = withEchoes(number - 1, 9);
            sky.noise(9, number);
            DUE.is("one less than " + number, sky.tell(0, 5, 0, 2), 0);
            sky.echo(0, 5, 31, 9);
            DUE.is("just " + number, sky.tell(0, 5, 0, 2), 1);
            sky.echo(0, 5, 30, 9);
            DUE.is(number + " or more", sky.tell(0, 5, 0, 2), 1);
        }
    }

    private static void asStrongOrMore() {
        DUE.sentence("Term 1: .. are NOISE or more");
        for (int strength = 1; strength <= 9; strength++) {
            SkyEcho sky = withEchoes(1, strength - 1);
            sky.noise(strength, 1);
            DUE.is("one less than " + strength, sky.tell(0, 5, 0, 2), 0);
            sky.echo(0, 5, 0, strength);
            DUE.is("just " + strength, sky.tell(0, 5, 0, 2), 1);
            sky.echo(0, 5, 0, 9);
            DUE.is(strength + " or more", sky.tell(0, 5, 0, 2), 1);
        }
    }

    private static void emptyAndFullBoards() {
        DUE.sentence("Term 1: BARRED TONES of an empty and of a full BOARD");
        SkyEcho sky = new SkyEcho();
        sky.noise(1, 1);
        DUE.is("an empty one", sky.count(13), 0);
        for (int tone = 0; tone <= LAST_TONE; tone++) {
            fillTone(sky, 3, tone, 0x99999999);
        }
        DUE.is("a full one", sky.count(13), 24);
        sky.noise(9, 32);
        DUE.is("a full one, of all", sky.count(13), 24);
        sky.echo(3, 0, 0, 8);
        sky.echo(3, LAST_TONE, LAST_HEIGHT, 8);
        DUE.is("two tones with one too weak", sky.count(13), 22);
        DUE.is("the first", sky.tell(3, 0, 0, 2), 0);
        DUE.is("the last", sky.tell(3, LAST_TONE, 0, 2), 0);
        DUE.is("the others", sky.tell(3, LAST_TONE - 1, 0, 2), 1);
    }

    private static void barredByBoardOrByEcho() {
        DUE.sentence("Term 1: BARRED whether the ECHOES came by board or by echo, and no more when they went");
        SkyEcho sky = new SkyEcho();
        sky.noise(5, 8);
        sky.board(2, 7, 1, 0x55555555);
        DUE.is("by board", sky.count(12), 1);
        sky.echo(2, 7, 8, 4);
        DUE.is("one is weaker", sky.count(12), 0);
        sky.echo(2, 7, 0, 5);
        DUE.is("another one is as strong", sky.count(12), 1);
        sky.board(2, 7, 1, 0);
        DUE.is("seven went", sky.count(12), 0);
        DUE.is("other boards", sky.count(11) + sky.count(13), 0);
    }

    private static void newObjects() {
        DUE.sentence("Promise 1: BOARDS without ECHOES, an empty TABLE, no STATIONS; no images");
        SkyEcho used = new SkyEcho();
        used.echo(0, 0, 0, 9);
        used.value(0, 0, 0, 0);
        used.station(0, 0, 0);
        used.noise(9, 9);
        used.shift(8);
        used.image(0);
        SkyEcho sky = new SkyEcho();
        for (int board = 0; board <= LAST_BOARD; board++) {
            DUE.is("no echo", sky.tell(board, 0, 0, 0), 0);
            DUE.is("no trace", sky.trace(board, 0), -1);
        }
        DUE.is("no value", sky.table(0, 0, 0), -1);
        DUE.is("no values", sky.count(4), 0);
        DUE.is("no station", sky.count(0), 0);
        DUE.is("noise", sky.count(1), 3);
        DUE.is("shift", sky.count(3), 2);
        for (int k = 0; k < 3; k++) {
            DUE.is("no image", sky.again(k), false);
        }
        DUE.is("the first object stays", used.tell(0, 0, 0, 0), 9);
        DUE.is("with its image", used.again(0), true);
    }

    private static void everyPart() {
        DUE.sentence("Promise 2: at HEIGHTS 8 * part on, part 0 .. 3, by half bytes, the highest for the first");
        for (int part = 0; part <= 3; part++) {
            SkyEcho sky = new SkyEcho();
            DUE.is("part " + part, sky.board(LAST_BOARD, LAST_TONE, part, 0x98765432), true);
            for (int height = 0; height <= LAST_HEIGHT; height++) {
                int want = height / 8 == part ? 9 - height % 8 : 0;
                DUE.is("part " + part + " height " + height, sky.tell(LAST_BOARD, LAST_TONE, height, 0), want);
            }
        }
    }

    private static void boardRefusals() {
        DUE.sentence("Promise 2: False, and nothing changes: there is none such");
        SkyEcho sky = new SkyEcho();
        for (int board : Due.outside(0, LAST_BOARD)) {
            DUE.is("board " + board, sky.board(board, 1, 1, 0x11111111), false);
        }
        for (int tone : Due.outside(0, LAST_TONE)) {
            DUE.is("tone " + tone, sky.board(1, tone, 1, 0x11111111), false);
        }
        for (int part : Due.outside(0, 3)) {
            DUE.is("part " + part, sky.board(1, 1, part, 0x11111111), false);
        }
        nothingAround(sky);
    }

    /** Where a refused call of BOARD 1, TONE 1 could have reached by an index that runs over. */
    private static void nothingAround(SkyEcho sky) {
        for (int board = 0; board <= LAST_BOARD; board++) {
            for (int tone : new int[] {0, 1, 2, LAST_TONE}) {
                for (int height : new int[] {0, 8, 16, LAST_HEIGHT}) {
                    DUE.is("nothing at " + board + " " + tone + " " + height, sky.tell(board, tone, height, 0), 0);
                }
            }
        }
    }

    private static void halfBytesAboveNine() {
        DUE.sentence("Promise 2: False, and nothing changes: a half byte is above 9");
        SkyEcho sky = new SkyEcho();
        sky.board(0, 0, 0, 0x12345678);
        for (int i = 0; i < 8; i++) {
            for (int half = 10; half <= 15; half++) {
                int eight = (0x99999999 & ~(15 << (4 * i))) | (half << (4 * i));
                DUE.is("half byte " + half + " at " + i, sky.board(0, 0, 0, eight), false);
            }
            DUE.is("half byte 9 at " + i, sky.board(1, 0, 0, 9 << (4 * i)), true);
            DUE.is("told", sky.tell(1, 0, 7 - i, 0), 9);
        }
        DUE.is("all above 9", sky.board(0, 0, 0, -1), false);
        DUE.is("the least int has half byte 8", sky.board(2, 0, 0, Integer.MIN_VALUE), true);
        DUE.is("told", sky.tell(2, 0, 0, 0), 8);
        DUE.is("the greatest int has 15", sky.board(2, 0, 0, Integer.MAX_VALUE), false);
        for (int height = 0; height < 8; height++) {
            DUE.is("as before at " + height, sky.tell(0, 0, height, 0), height + 1);
        }
    }

    private static void boardWritesOver() {
        DUE.sentence("Promise 2: Eight ECHOES, those that are 0 among them");
        SkyEcho sky = new SkyEcho();
        sky.board(0, 0, 0, 0x99999999);
        DUE.is("over it", sky.board(0, 0, 0, 0x00000001), true);
        for (int height = 0; height < 8; height++) {
            DUE.is("at " + height, sky.tell(0, 0, height, 0), height == 7 ? 1 : 0);
        }
    }

    private static void echoRefusals() {
        DUE.sentence("Promise 3: false: there is none such");
        SkyEcho sky = new SkyEcho();
        for (int board : Due.outside(0, LAST_BOARD)) {
            DUE.is("board " + board, sky.echo(board, 1, 1, 5), false);
        }
        for (int tone : Due.outside(0, LAST_TONE)) {
            DUE.is("tone " + tone, sky.echo(1, tone, 0, 5), false);
        }
        for (int height : Due.outside(0, LAST_HEIGHT)) {
            DUE.is("height " + height, sky.echo(1, 1, height, 5), false);
        }
        nothingAround(sky);
        DUE.sentence("Promise 3: false: .. or another number");
        sky.echo(1, 1, 1, 7);
        for (int echo : Due.outside(0, 9)) {
            DUE.is("echo " + echo, sky.echo(1, 1, 1, echo), false);
        }
        DUE.is("as before", sky.tell(1, 1, 1, 0), 7);
        nothingAround(sky);
    }

    private static void echoChangesOne() {
        DUE.sentence("Promise 3: One ECHO");
        SkyEcho sky = new SkyEcho();
        fillTone(sky, 0, 9, 0x99999999);
        for (int height : new int[] {0, 7, 8, 15, 16, 24, LAST_HEIGHT}) {
            sky.echo(0, 9, height, 0);
        }
        for (int height = 0; height <= LAST_HEIGHT; height++) {
            boolean changed = height % 8 == 0 || height == 7 || height == 15 || height == LAST_HEIGHT;
            DUE.is("at " + height, sky.tell(0, 9, height, 0), changed ? 0 : 9);
        }
    }

    private static void blanks() {
        DUE.sentence("Promise 4: A BOARD has no ECHOES any more");
        for (int blank = 0; blank <= LAST_BOARD; blank++) {
            SkyEcho sky = new SkyEcho();
            for (int board = 0; board <= LAST_BOARD; board++) {
                fillTone(sky, board, 0, 0x99999999);
                fillTone(sky, board, LAST_TONE, 0x99999999);
            }
            DUE.is("blank", sky.blank(blank), true);
            DUE.is("blank an empty one", sky.blank(blank), true);
            for (int board = 0; board <= LAST_BOARD; board++) {
                int left = board == blank ? 0 : 9;
                DUE.is("first of " + board, sky.tell(board, 0, 0, 0), left);
                DUE.is("last of " + board, sky.tell(board, LAST_TONE, LAST_HEIGHT, 0), left);
                DUE.is("barred of " + board, sky.count(10 + board), board == blank ? 0 : 2);
            }
            DUE.is("an echo after it", sky.echo(blank, 0, 0, 4), true);
            DUE.is("has only that", sky.count(10 + blank), 0);
        }
        DUE.sentence("Promise 4: false: there is none such");
        SkyEcho sky = new SkyEcho();
        sky.echo(0, 0, 0, 5);
        sky.echo(LAST_BOARD, LAST_TONE, LAST_HEIGHT, 5);
        for (int board : Due.outside(0, LAST_BOARD)) {
            DUE.is("board " + board, sky.blank(board), false);
        }
        DUE.is("first stays", sky.tell(0, 0, 0, 0), 5);
        DUE.is("last stays", sky.tell(LAST_BOARD, LAST_TONE, LAST_HEIGHT, 0), 5);
    }

    private static void noises() {
        DUE.sentence("Promise 5: NOISE from now on: true");
        SkyEcho sky = new SkyEcho();
        for (int strength : new int[] {1, 9}) {
            for (int number : new int[] {1, 32}) {
                DUE.is("noise", sky.noise(strength, number), true);
                DUE.is("strength", sky.count(1), strength);
                DUE.is("number", sky.count(2), number);
            }
        }
        DUE.sentence("Promise 5: false for others");
        sky.noise(4, 6);
        for (int strength : Due.outside(1, 9)) {
            DUE.is("strength " + strength, sky.noise(strength, 1), false);
        }
        for (int number : Due.outside(1, 32)) {
            DUE.is("number " + number, sky.noise(1, number), false);
        }
        DUE.is("strength stays", sky.count(1), 4);
        DUE.is("number stays", sky.count(2), 6);
    }

    private static void noiseOfEarlierEchoes() {
        DUE.sentence("Promise 5: NOISE from now on bars TONES of all BOARDS that were told before");
        SkyEcho sky = new SkyEcho();
        for (int board = 0; board <= LAST_BOARD; board++) {
            sky.echo(board, 0, 0, 2);
            sky.echo(board, LAST_TONE, LAST_HEIGHT, 2);
        }
        sky.noise(2, 1);
        for (int board = 0; board <= LAST_BOARD; board++) {
            DUE.is("barred of " + board, sky.count(10 + board), 2);
        }
        sky.noise(3, 1);
        for (int board = 0; board <= LAST_BOARD; board++) {
            DUE.is("barred no more of " + board, sky.count(10 + board), 0);
        }
    }

    private static void shifts() {
        DUE.sentence("Promise 6: SHIFT from now on: true");
        SkyEcho sky = new SkyEcho();
        sky.echo(0, LAST_TONE, 9, 6);
        DUE.is("2 at first", sky.tell(0, LAST_TONE - 2, 9, 1), 6);
        for (int tones = 8; tones >= 1; tones--) {
            DUE.is("shift " + tones, sky.shift(tones), true);
            DUE.is("count", sky.count(3), tones);
            DUE.is("so far before", sky.tell(0, LAST_TONE - tones, 9, 1), 6);
            DUE.is("one further", sky.tell(0, LAST_TONE - tones - 1, 9, 1), 0);
        }
        DUE.sentence("Promise 6: false for another one");
        sky.shift(5);
        for (int tones : Due.outside(1, 8)) {
            DUE.is("shift " + tones, sky.shift(tones), false);
        }
        DUE.is("as before", sky.count(3), 5);
        DUE.is("worth as before", sky.tell(0, LAST_TONE - 5, 9, 1), 6);
    }

    private static void tellRefusals() {
        DUE.sentence("Promise 7: NONE: there is none such");
        SkyEcho sky = new SkyEcho();
        sky.noise(9, 1);
        for (int board = 0; board <= LAST_BOARD; board++) {
            fillTone(sky, board, 0, 0x99999999);
            fillTone(sky, board, LAST_TONE, 0x99999999);
        }
        for (int what = 0; what < 3; what++) {
            for (int board : Due.outside(0, LAST_BOARD)) {
                DUE.is("board " + board, sky.tell(board, 0, 0, what), -1);
            }
            for (int tone : Due.outside(0, LAST_TONE)) {
                DUE.is("tone " + tone, sky.tell(0, tone, 0, what), -1);
            }
            for (int height : Due.outside(0, LAST_HEIGHT)) {
                DUE.is("height " + height, sky.tell(0, 0, height, what), -1);
            }
        }
        DUE.sentence("Promise 7: NONE: .. or for another what");
        for (int what : Due.outside(0, 2)) {
            DUE.is("what " + what, sky.tell(0, 0, 0, what), -1);
        }
    }

    private static void tellBarred() {
        DUE.sentence("Promise 7: 2: 1 if the TONE is BARRED, else 0");
        SkyEcho sky = new SkyEcho();
        sky.noise(9, 1);
        sky.echo(LAST_BOARD, 0, 4, 9);
        sky.echo(LAST_BOARD, LAST_TONE, 4, 9);
        for (int height : new int[] {0, 4, LAST_HEIGHT}) {
            DUE.is("tone 0", sky.tell(LAST_BOARD, 0, height, 2), 1);
            DUE.is("tone 1", sky.tell(LAST_BOARD, 1, height, 2), 0);
            DUE.is("tone 22", sky.tell(LAST_BOARD, LAST_TONE - 1, height, 2), 0);
            DUE.is("tone 23", sky.tell(LAST_BOARD, LAST_TONE, height, 2), 1);
            DUE.is("the same tone of another board", sky.tell(0, 0, height, 2), 0);
        }
        DUE.is("its ECHO is told all the same", sky.tell(LAST_BOARD, 0, 4, 0), 9);
    }

    public static void main(String[] args) {
        boardsTonesAndHeights();
        echoesFromNothingToNine();
        noiseAtFirst();
        asManyOrMore();
        asStrongOrMore();
        emptyAndFullBoards();
        barredByBoardOrByEcho();
        newObjects();
        everyPart();
        boardRefusals();
        halfBytesAboveNine();
        boardWritesOver();
        echoRefusals();
        echoChangesOne();
        blanks();
        noises();
        noiseOfEarlierEchoes();
        shifts();
        tellRefusals();
        tellBarred();
        DUE.end();
    }
}
