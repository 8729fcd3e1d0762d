/** Echoes from the sky: boards, their best traces, a table of hours, true heights, hops and a map. */
public final class SkyEcho {
    public static final int NONE = -1;

    private static final int BOARDS = 4;
    private static final int TONES = 24;
    private static final int HEIGHTS = 32;
    private static final int PARTS = 4;
    private static final int TOP_ECHO = 9;
    private static final int TOP_SHIFT = 8;
    private static final int TOP_RISE = 3;

    private static final int HOURS = 24;
    private static final int DAYS = 31;
    private static final int TOP_VALUE = 999;
    private static final int OR_MORE = 1;
    private static final int OR_LESS = 2;
    private static final int BELOW_ALL = -1;
    private static final int ABOVE_ALL = 1000;
    private static final int NO_MIDDLE = -2;

    private static final int TOP_DISTANCE = 20000;
    private static final int TOP_LAYER = 1000;
    private static final int TOP_HOPS = 5;

    private static final int STATIONS = 4;
    private static final int MAP_EDGE = 200;

    private static final int IMAGES = 3;

    private final Sky now;
    private final Sky[] images;
    private final TraceFinder finder;
    private final TrueHeights trueHeights;
    private final MiddleFinder middles;
    private int tracedBoard;

    public SkyEcho() {
        now = new Sky();
        images = new Sky[IMAGES];
        finder = new TraceFinder();
        trueHeights = new TrueHeights();
        middles = new MiddleFinder();
        tracedBoard = NONE;
    }

    public boolean board(int board, int tone, int part, int eight) {
        if (!isTone(board, tone) || !within(part, 0, PARTS - 1) || !Boards.areEchoes(eight)) {
            return false;
        }
        now.boards.putEight(board, tone, part, eight);
        forgetTrace();
        return true;
    }

    public boolean echo(int board, int tone, int height, int echo) {
        if (!isPlace(board, tone, height) || !within(echo, 0, TOP_ECHO)) {
            return false;
        }
        now.boards.putEcho(board, tone, height, echo);
        forgetTrace();
        return true;
    }

    public boolean blank(int board) {
        if (!isBoard(board)) {
            return false;
        }
        now.boards.wipe(board);
        forgetTrace();
        return true;
    }

    public boolean noise(int strength, int many) {
        if (!within(strength, 1, TOP_ECHO) || !within(many, 1, HEIGHTS)) {
            return false;
        }
        now.boards.setNoise(strength, many);
        forgetTrace();
        return true;
    }

    public boolean shift(int tones) {
        if (!within(tones, 1, TOP_SHIFT)) {
            return false;
        }
        now.boards.shiftTones = tones;
        forgetTrace();
        return true;
    }

    public int tell(int board, int tone, int height, int what) {
        if (!isPlace(board, tone, height)) {
            return NONE;
        }
        switch (what) {
            case 0:
                return now.boards.echoAt(board, tone, height);
            case 1:
                return now.boards.worthAt(board, tone, height);
            case 2:
                return now.boards.isBarred(board, tone) ? 1 : 0;
            default:
                return NONE;
        }
    }

    public int trace(int board, int what) {
        if (!hasTrace(board)) {
            return NONE;
        }
        switch (what) {
            case 0:
                return finder.worth;
            case 1:
                return finder.firstTone;
            case 2:
                return finder.lastTone;
            case 3:
                return lastLetter(board);
            default:
                return NONE;
        }
    }

    public int height(int board, int tone) {
        if (!isTone(board, tone) || !hasTrace(board)) {
            return NONE;
        }
        return finder.heightAt(tone);
    }

    public int undone(int board) {
        return hasTrace(board) ? trueHeights.solved : NONE;
    }

    public int place(int board, int i, int what) {
        if (!hasTrace(board) || !within(i, 0, trueHeights.solved - 1)) {
            return NONE;
        }
        switch (what) {
            case 0:
                return trueHeights.stepAt(i);
            case 1:
                return trueHeights.trueHeightAt(i);
            case 2:
                return trueHeights.madeAgain(i);
            default:
                return NONE;
        }
    }

    public boolean value(int hour, int day, int value, int letter) {
        if (!isDay(hour, day) || !isValue(value) || !within(letter, 0, OR_LESS)) {
            return false;
        }
        now.table.put(hour, day, value, letter);
        return true;
    }

    public boolean scale(int board, int hour, int day) {
        if (!isBoard(board) || !isDay(hour, day)) {
            return false;
        }
        if (hasTrace(board)) {
            now.table.put(hour, day, finder.lastTone * 10, lastLetter(board));
        } else {
            now.table.drop(hour, day);
        }
        return true;
    }

    public boolean miss(int hour, int day) {
        if (!isDay(hour, day)) {
            return false;
        }
        now.table.drop(hour, day);
        return true;
    }

    public int table(int hour, int day, int what) {
        if (!isDay(hour, day) || now.table.isMissing(hour, day)) {
            return NONE;
        }
        switch (what) {
            case 0:
                return now.table.valueAt(hour, day);
            case 1:
                return now.table.letterAt(hour, day);
            default:
                return NONE;
        }
    }

    public int middle(int hour, int what) {
        if (!within(hour, 0, HOURS - 1)) {
            return NO_MIDDLE;
        }
        switch (what) {
            case 0:
                return middles.find(now.table, hour, OR_LESS, BELOW_ALL);
            case 1:
                return middles.find(now.table, hour, OR_MORE, ABOVE_ALL);
            case 2:
                return now.table.presentIn(hour);
            default:
                return NO_MIDDLE;
        }
    }

    public int hops(int distance, int height, int tone, int n) {
        if (!within(distance, 1, TOP_DISTANCE) || !within(height, 1, TOP_LAYER)
                || !within(tone, 1, TOP_LAYER) || !within(n, 1, TOP_HOPS)) {
            return NONE;
        }
        return FarPlace.highestTone(distance, height, tone, n);
    }

    public int fewest(int distance, int length) {
        if (!within(distance, 1, TOP_DISTANCE) || !within(length, 1, TOP_DISTANCE)) {
            return NONE;
        }
        return FarPlace.leastHops(distance, length);
    }

    public int station(int x, int y, int value) {
        if (!isOnMap(x, y) || !isValue(value)) {
            return NONE;
        }
        return now.stations.add(x, y, value);
    }

    public boolean tellStation(int station, int value) {
        if (!within(station, 0, now.stations.size - 1) || !isValue(value)) {
            return false;
        }
        now.stations.values[station] = value;
        return true;
    }

    public int map(int x, int y) {
        if (!isOnMap(x, y)) {
            return NONE;
        }
        return now.stations.valueAt(x, y);
    }

    public int count(int what) {
        switch (what) {
            case 0:
                return now.stations.size;
            case 1:
                return now.boards.noiseStrength;
            case 2:
                return now.boards.noiseMany;
            case 3:
                return now.boards.shiftTones;
            case 4:
                return now.table.present();
            case 5:
                return now.table.lettered();
            case 10:
            case 11:
            case 12:
            case 13:
                return now.boards.barredTones(what - 10);
            default:
                return NONE;
        }
    }

    public boolean image(int k) {
        if (!within(k, 0, IMAGES - 1)) {
            return false;
        }
        Sky kept = images[k];
        if (kept == null) {
            kept = new Sky();
            images[k] = kept;
        }
        kept.copyFrom(now);
        return true;
    }

    public boolean again(int k) {
        if (!within(k, 0, IMAGES - 1)) {
            return false;
        }
        Sky kept = images[k];
        if (kept == null) {
            return false;
        }
        now.copyFrom(kept);
        forgetTrace();
        return true;
    }

    /** Finds THE TRACE of a BOARD unless it is the one already held, for most calls ask of the same one. */
    private boolean hasTrace(int board) {
        if (!isBoard(board)) {
            return false;
        }
        if (tracedBoard != board) {
            finder.find(now.boards, board);
            trueHeights.undo(finder);
            tracedBoard = board;
        }
        return finder.isFound();
    }

    private void forgetTrace() {
        tracedBoard = NONE;
    }

    private int lastLetter(int board) {
        int next = finder.lastTone + 1;
        return next >= TONES || now.boards.isBarred(board, next) ? OR_MORE : 0;
    }

    private static boolean within(int number, int low, int high) {
        return number >= low && number <= high;
    }

    private static boolean isBoard(int board) {
        return within(board, 0, BOARDS - 1);
    }

    private static boolean isTone(int board, int tone) {
        return isBoard(board) && within(tone, 0, TONES - 1);
    }

    private static boolean isPlace(int board, int tone, int height) {
        return isTone(board, tone) && within(height, 0, HEIGHTS - 1);
    }

    private static boolean isDay(int hour, int day) {
        return within(hour, 0, HOURS - 1) && within(day, 0, DAYS - 1);
    }

    private static boolean isValue(int value) {
        return within(value, 0, TOP_VALUE);
    }

    private static boolean isOnMap(int x, int y) {
        return within(x, 0, MAP_EDGE) && within(y, 0, MAP_EDGE);
    }

    /** All that is told: what an image keeps. */
    private static final class Sky {
        final Boards boards = new Boards();
        final Table table = new Table();
        final Stations stations = new Stations();

        void copyFrom(Sky other) {
            boards.copyFrom(other.boards);
            table.copyFrom(other.table);
            stations.copyFrom(other.stations);
        }
    }

    /** The ECHOES of all BOARDS, eight to an int as they are told, which keeps images small. */
    private static final class Boards {
        private static final int IN_EIGHT = 8;
        private static final int HALF_BYTE = 15;

        final int[] eights = new int[BOARDS * TONES * PARTS];
        // A bit for each BARRED TONE of a BOARD: kept, since every WORTH asks for two of them.
        final int[] barred = new int[BOARDS];
        int noiseStrength = 3;
        int noiseMany = 20;
        int shiftTones = 2;

        static boolean areEchoes(int eight) {
            for (int i = 0; i < IN_EIGHT; i++) {
                if (((eight >>> (4 * i)) & HALF_BYTE) > TOP_ECHO) {
                    return false;
                }
            }
            return true;
        }

        private static int rowOf(int board, int tone, int part) {
            return (board * TONES + tone) * PARTS + part;
        }

        private static int bitsBehind(int height) {
            return 4 * (IN_EIGHT - 1 - height % IN_EIGHT);
        }

        int echoAt(int board, int tone, int height) {
            int eight = eights[rowOf(board, tone, height / IN_EIGHT)];
            return (eight >>> bitsBehind(height)) & HALF_BYTE;
        }

        void putEight(int board, int tone, int part, int eight) {
            eights[rowOf(board, tone, part)] = eight;
            judge(board, tone);
        }

        void putEcho(int board, int tone, int height, int echo) {
            int row = rowOf(board, tone, height / IN_EIGHT);
            int bits = bitsBehind(height);
            eights[row] = (eights[row] & ~(HALF_BYTE << bits)) | (echo << bits);
            judge(board, tone);
        }

        void wipe(int board) {
            int start = rowOf(board, 0, 0);
            for (int i = 0; i < TONES * PARTS; i++) {
                eights[start + i] = 0;
            }
            barred[board] = 0;
        }

        void setNoise(int strength, int many) {
            noiseStrength = strength;
            noiseMany = many;
            for (int board = 0; board < BOARDS; board++) {
                for (int tone = 0; tone < TONES; tone++) {
                    judge(board, tone);
                }
            }
        }

        private void judge(int board, int tone) {
            int noisy = 0;
            for (int height = 0; height < HEIGHTS; height++) {
                if (echoAt(board, tone, height) >= noiseStrength) {
                    noisy++;
                }
            }
            int bit = 1 << tone;
            barred[board] = noisy >= noiseMany ? barred[board] | bit : barred[board] & ~bit;
        }

        boolean isBarred(int board, int tone) {
            return ((barred[board] >>> tone) & 1) == 1;
        }

        int barredTones(int board) {
            return Integer.bitCount(barred[board]);
        }

        int worthAt(int board, int tone, int height) {
            return heardAt(board, tone, height) + heardAt(board, tone + shiftTones, height);
        }

        private int heardAt(int board, int tone, int height) {
            return tone >= TONES || isBarred(board, tone) ? 0 : echoAt(board, tone, height);
        }

        void copyFrom(Boards other) {
            System.arraycopy(other.eights, 0, eights, 0, eights.length);
            System.arraycopy(other.barred, 0, barred, 0, barred.length);
            noiseStrength = other.noiseStrength;
            noiseMany = other.noiseMany;
            shiftTones = other.shiftTones;
        }
    }

    /**
     * Finds THE TRACE from the last TONE backwards. Every part of THE TRACE up to its end is itself the
     * best from where it starts, and ends as early as the best can; so the HEIGHTS can be read off forwards.
     */
    private static final class TraceFinder {
        private static final int NO_WAY = -1000000;

        // Of the traces that go on from a place: the greatest WORTH, and the least last TONE that has it.
        private final int[] best = new int[TONES * HEIGHTS];
        private final int[] end = new int[TONES * HEIGHTS];
        private final int[] heights = new int[TONES];
        int worth = 0;
        int firstTone = NONE;
        int lastTone = NONE;

        boolean isFound() {
            return firstTone != NONE;
        }

        int heightAt(int tone) {
            return isFound() && tone >= firstTone && tone <= lastTone ? heights[tone] : NONE;
        }

        void find(Boards boards, int board) {
            for (int tone = TONES - 1; tone >= 0; tone--) {
                boolean mayEnd = !boards.isBarred(board, tone);
                for (int height = 0; height < HEIGHTS; height++) {
                    weigh(tone, height, mayEnd, boards.worthAt(board, tone, height));
                }
            }
            chooseStart(boards, board);
            for (int tone = firstTone; isFound() && tone < lastTone; tone++) {
                int left = best[placeOf(tone, heights[tone])] + 1
                        - boards.worthAt(board, tone, heights[tone]);
                heights[tone + 1] = nextHeight(tone + 1, heights[tone], left);
            }
        }

        private static int placeOf(int tone, int height) {
            return tone * HEIGHTS + height;
        }

        private static int lowest(int height) {
            return Math.max(0, height - TOP_RISE);
        }

        private static int highest(int height) {
            return Math.min(HEIGHTS - 1, height + TOP_RISE);
        }

        private void weigh(int tone, int height, boolean mayEnd, int placeWorth) {
            int most = mayEnd ? 0 : NO_WAY;
            int earliest = tone;
            int top = tone + 1 < TONES ? highest(height) : NONE;
            for (int next = lowest(height); next <= top; next++) {
                int nextPlace = placeOf(tone + 1, next);
                if (best[nextPlace] != NO_WAY) {
                    int onward = best[nextPlace] - Math.abs(next - height);
                    if (onward > most || (onward == most && end[nextPlace] < earliest)) {
                        most = onward;
                        earliest = end[nextPlace];
                    }
                }
            }
            int place = placeOf(tone, height);
            best[place] = most == NO_WAY ? NO_WAY : most + placeWorth - 1;
            end[place] = earliest;
        }

        private void chooseStart(Boards boards, int board) {
            worth = 0;
            firstTone = NONE;
            lastTone = NONE;
            for (int tone = 0; tone < TONES; tone++) {
                if (!boards.isBarred(board, tone)) {
                    tryStart(tone);
                }
            }
        }

        private void tryStart(int tone) {
            for (int height = 0; height < HEIGHTS; height++) {
                int place = placeOf(tone, height);
                boolean sooner = tone == firstTone && best[place] == worth && end[place] < lastTone;
                if (best[place] > worth || sooner) {
                    worth = best[place];
                    firstTone = tone;
                    lastTone = end[place];
                    heights[tone] = height;
                }
            }
        }

        private int nextHeight(int tone, int height, int left) {
            int top = highest(height);
            for (int next = lowest(height); next <= top; next++) {
                int place = placeOf(tone, next);
                if (best[place] - Math.abs(next - height) == left && end[place] == lastTone) {
                    return next;
                }
            }
            return height;
        }
    }

    /** The STEPS of THE TRACE that was found last. */
    private static final class TrueHeights {
        private static final int UNIT = 100000;

        private final int[] steps = new int[TONES];
        int solved = 0;

        private static int weight(int j, int i) {
            return 100 + 100 * j / (i + 1);
        }

        void undo(TraceFinder trace) {
            solved = 0;
            int places = trace.isFound() ? trace.lastTone - trace.firstTone + 1 : 0;
            for (int i = 0; i < places; i++) {
                int left = UNIT * (trace.heightAt(trace.firstTone + i) + 1) - weighed(i, i);
                int step = left / weight(i, i);
                if (step <= 0) {
                    return;
                }
                steps[i] = step;
                solved = i + 1;
            }
        }

        /** The first STEPS, so many, as place i weighs them. */
        private int weighed(int many, int i) {
            int sum = 0;
            for (int j = 0; j < many; j++) {
                sum += weight(j, i) * steps[j];
            }
            return sum;
        }

        int stepAt(int i) {
            return steps[i];
        }

        int trueHeightAt(int i) {
            int sum = 0;
            for (int j = 0; j <= i; j++) {
                sum += steps[j];
            }
            return sum;
        }

        int madeAgain(int i) {
            return weighed(i + 1, i) / UNIT - 1;
        }
    }

    /** THE TABLE: of each HOUR and DAY a VALUE and LETTER in one cell. */
    private static final class Table {
        private static final int LETTERS = 3;
        private static final int MISSING = -1;

        final int[] cells = new int[HOURS * DAYS];

        Table() {
            for (int i = 0; i < cells.length; i++) {
                cells[i] = MISSING;
            }
        }

        private static int cellOf(int hour, int day) {
            return hour * DAYS + day;
        }

        void put(int hour, int day, int value, int letter) {
            cells[cellOf(hour, day)] = value * LETTERS + letter;
        }

        void drop(int hour, int day) {
            cells[cellOf(hour, day)] = MISSING;
        }

        boolean isMissing(int hour, int day) {
            return cells[cellOf(hour, day)] == MISSING;
        }

        int valueAt(int hour, int day) {
            return cells[cellOf(hour, day)] / LETTERS;
        }

        int letterAt(int hour, int day) {
            return cells[cellOf(hour, day)] % LETTERS;
        }

        int presentIn(int hour) {
            int found = 0;
            for (int day = 0; day < DAYS; day++) {
                if (!isMissing(hour, day)) {
                    found++;
                }
            }
            return found;
        }

        int present() {
            int found = 0;
            for (int hour = 0; hour < HOURS; hour++) {
                found += presentIn(hour);
            }
            return found;
        }

        int lettered() {
            int found = 0;
            for (int hour = 0; hour < HOURS; hour++) {
                for (int day = 0; day < DAYS; day++) {
                    if (!isMissing(hour, day) && letterAt(hour, day) != 0) {
                        found++;
                    }
                }
            }
            return found;
        }

        void copyFrom(Table other) {
            System.arraycopy(other.cells, 0, cells, 0, cells.length);
        }
    }

    /** Puts the VALUES of an HOUR in order, in a row that is used again. */
    private static final class MiddleFinder {
        private final int[] row = new int[DAYS];

        /** The middle one, where VALUES with the open LETTER count as the bound instead. */
        int find(Table table, int hour, int openLetter, int bound) {
            int many = 0;
            for (int day = 0; day < DAYS; day++) {
                if (!table.isMissing(hour, day)) {
                    boolean open = table.letterAt(hour, day) == openLetter;
                    insert(many, open ? bound : table.valueAt(hour, day));
                    many++;
                }
            }
            return many == 0 ? NO_MIDDLE : row[(many - 1) / 2];
        }

        private void insert(int many, int value) {
            int at = many;
            while (at > 0 && row[at - 1] > value) {
                row[at] = row[at - 1];
                at--;
            }
            row[at] = value;
        }
    }

    /** What reaches a far place by hops. */
    private static final class FarPlace {
        private static final int TOP_ROOT_BIT = 23;

        /** The law divided by 4nnHH first, since F * F * 4nnHH would not fit into a long for an F that is tried. */
        static int highestTone(int distance, int height, int tone, int n) {
            long straight = 4L * n * n * height * height;
            long slanted = (long) distance * distance + straight;
            return rootOf((long) tone * tone * slanted / straight);
        }

        private static int rootOf(long square) {
            long root = 0;
            for (int bit = TOP_ROOT_BIT; bit >= 0; bit--) {
                long more = root + (1L << bit);
                if (more * more <= square) {
                    root = more;
                }
            }
            return (int) root;
        }

        static int leastHops(int distance, int length) {
            for (int n = 1; n <= TOP_HOPS; n++) {
                if (distance <= n * length) {
                    return n;
                }
            }
            return NONE;
        }
    }

    /** STATIONS and the MAP between them. */
    private static final class Stations {
        final int[] xs = new int[STATIONS];
        final int[] ys = new int[STATIONS];
        final int[] values = new int[STATIONS];
        int size = 0;

        int add(int x, int y, int value) {
            if (size >= STATIONS || standingAt(x, y) != NONE) {
                return NONE;
            }
            xs[size] = x;
            ys[size] = y;
            values[size] = value;
            size++;
            return size - 1;
        }

        private int standingAt(int x, int y) {
            for (int i = 0; i < size; i++) {
                if (xs[i] == x && ys[i] == y) {
                    return i;
                }
            }
            return NONE;
        }

        int valueAt(int x, int y) {
            int there = standingAt(x, y);
            return there == NONE ? weighedAt(x, y) : values[there];
        }

        /** Both sums times all squared distances, so that they stay whole; four stations fit into a long. */
        private int weighedAt(int x, int y) {
            long valueSum = 0;
            long weightSum = 0;
            for (int i = 0; i < size; i++) {
                long weight = distancesBut(i, x, y);
                valueSum += weight * values[i];
                weightSum += weight;
            }
            return weightSum == 0 ? NONE : (int) (valueSum / weightSum);
        }

        private long distancesBut(int left, int x, int y) {
            long product = 1;
            for (int i = 0; i < size; i++) {
                if (i != left) {
                    int dx = xs[i] - x;
                    int dy = ys[i] - y;
                    product *= dx * dx + dy * dy;
                }
            }
            return product;
        }

        void copyFrom(Stations other) {
            System.arraycopy(other.xs, 0, xs, 0, STATIONS);
            System.arraycopy(other.ys, 0, ys, 0, STATIONS);
            System.arraycopy(other.values, 0, values, 0, STATIONS);
            size = other.size;
        }
    }
}
