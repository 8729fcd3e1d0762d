import java.math.BigInteger;

/** The boundary cases of far places and of STATIONS: term 4, promises 17 to 21. */
public final class FarBoundaryTest {
    private static final Due DUE = new Due();
    private static final int TOP_DISTANCE = 20000;
    private static final int TOP_LAYER = 1000;
    private static final int TOP_HOPS = 5;
    private static final int EDGE = 200;
    private static final int TOP_VALUE = 999;

    private static boolean fits(int f, int d, int h, int c, int n) {
        BigInteger straight = BigInteger.valueOf(4L * n * n).multiply(BigInteger.valueOf((long) h * h));
        BigInteger left = BigInteger.valueOf(f).pow(2).multiply(straight);
        BigInteger right = BigInteger.valueOf(c).pow(2).multiply(BigInteger.valueOf(d).pow(2).add(straight));
        return left.compareTo(right) <= 0;
    }

    private static void greatestWholeNumber() {
        DUE.sentence("Term 4: at most the greatest whole number F for which F * F * 4 * n * n * H * H is at most ..");
        int[] layers = {1, 2, 3, 999, TOP_LAYER};
        for (int d : new int[] {1, 2, 19999, TOP_DISTANCE}) {
            SkyEcho sky = new SkyEcho();
            for (int h : layers) {
                for (int c : layers) {
                    for (int n = 1; n <= TOP_HOPS; n += 2) {
                        int f = sky.hops(d, h, c, n);
                        String call = "hops " + d + " " + h + " " + c + " " + n;
                        DUE.is(call + " is at most that", fits(f, d, h, c, n), true);
                        DUE.is(call + " is the greatest", fits(f + 1, d, h, c, n), false);
                    }
                }
            }
        }
    }

    private static void justAtMost() {
        DUE.sentence("Term 4: .. is at most (just as much is)");
        SkyEcho sky = new SkyEcho();
        // 6, 8 and 10, or 12, 16 and 20: the root is whole, so F = c * 10 / 8.
        for (int n = 1; n <= TOP_HOPS; n++) {
            DUE.is("just 5 by " + n, sky.hops(6 * n, 4, 4, n), 5);
            DUE.is("just 1250 by " + n, sky.hops(6 * n, 4, 1000, n), 1250);
            DUE.is("a little less than 5 by " + n, sky.hops(6 * n - 1, 4, 4, n), 4);
            DUE.is("a little more than 5 by " + n, sky.hops(6 * n + 1, 4, 4, n), 5);
        }
    }

    private static void justAtMostOfManyTriangles() {
        DUE.sentence("Term 4: .. is at most (just as much is, for whole triangles)");
        int[][] triangles = {{8, 6, 10}, {10, 24, 26}, {24, 10, 26}, {16, 30, 34}, {48, 14, 50}, {42, 40, 58}};
        for (int[] triangle : triangles) {
            SkyEcho sky = new SkyEcho();
            int half = triangle[1] / 2;
            for (int times = 1; times * half <= TOP_LAYER; times += 3) {
                int f = triangle[2] / 2 * times;
                DUE.is("just " + f, sky.hops(triangle[0], half, half * times, 1), f);
                DUE.is("just " + f + " by five", sky.hops(5 * triangle[0], half, half * times, 5), f);
                DUE.is("not quite " + f, sky.hops(triangle[0] - 1, half, half * times, 1) < f, true);
            }
        }
    }

    private static void farthestAndNearest() {
        DUE.sentence("Term 4: D, 1 .. 20000; H, 1 .. 1000; c, 1 .. 1000; n hops, 1 .. 5");
        SkyEcho sky = new SkyEcho();
        DUE.is("all least", sky.hops(1, 1, 1, 1), 1);
        DUE.is("all greatest", sky.hops(TOP_DISTANCE, TOP_LAYER, TOP_LAYER, TOP_HOPS), 2236);
        DUE.is("the greatest answer", sky.hops(TOP_DISTANCE, 1, TOP_LAYER, 1), 10000000);
        DUE.is("the same by five", sky.hops(TOP_DISTANCE, 1, TOP_LAYER, TOP_HOPS), 2000000);
        DUE.is("the least answer", sky.hops(1, TOP_LAYER, 1, TOP_HOPS), 1);
        DUE.is("never less than straight up", sky.hops(1, TOP_LAYER, TOP_LAYER, TOP_HOPS), TOP_LAYER);
    }

    private static void hopsRefusals() {
        DUE.sentence("Promise 17: NONE for other numbers");
        SkyEcho sky = new SkyEcho();
        for (int distance : Due.outside(1, TOP_DISTANCE)) {
            DUE.is("distance " + distance, sky.hops(distance, 1, 1, 1), -1);
        }
        for (int height : Due.outside(1, TOP_LAYER)) {
            DUE.is("height " + height, sky.hops(1, height, 1, 1), -1);
        }
        for (int tone : Due.outside(1, TOP_LAYER)) {
            DUE.is("tone " + tone, sky.hops(1, 1, tone, 1), -1);
        }
        for (int n : Due.outside(1, TOP_HOPS)) {
            DUE.is("n " + n, sky.hops(1, 1, 1, n), -1);
        }
        DUE.is("height 0 and n 0", sky.hops(1, 0, 1, 0), -1);
    }

    private static void notLonger() {
        DUE.sentence("Promise 18: The least number of hops .. such that each hop (distance by n) is not longer");
        SkyEcho sky = new SkyEcho();
        for (int length : new int[] {1, 2, 3, 7, 3999, 4000}) {
            for (int n = 1; n <= TOP_HOPS; n++) {
                DUE.is(n + " times " + length, sky.fewest(n * length, length), n);
                int more = n == TOP_HOPS ? -1 : n + 1;
                boolean told = n * length < TOP_DISTANCE;
                DUE.is(n + " times " + length + " and 1", sky.fewest(n * length + 1, length), told ? more : -1);
            }
        }
        DUE.is("a hop of three and a half is longer than three", sky.fewest(7, 3), 3);
        DUE.is("shorter than one hop", sky.fewest(1, 2), 1);
        DUE.sentence("Promise 18: a length, 1 .. 20000");
        DUE.is("the longest", sky.fewest(TOP_DISTANCE, TOP_DISTANCE), 1);
        DUE.is("the longest for the nearest", sky.fewest(1, TOP_DISTANCE), 1);
        DUE.is("the shortest for the nearest", sky.fewest(1, 1), 1);
    }

    private static void fewestRefusals() {
        DUE.sentence("Promise 18: NONE: none is");
        SkyEcho sky = new SkyEcho();
        DUE.is("six hops of 1", sky.fewest(6, 1), -1);
        DUE.is("a little over five hops", sky.fewest(TOP_DISTANCE, 3999), -1);
        DUE.is("the farthest by the shortest", sky.fewest(TOP_DISTANCE, 1), -1);
        DUE.sentence("Promise 18: NONE: .. or others");
        for (int distance : Due.outside(1, TOP_DISTANCE)) {
            DUE.is("distance " + distance, sky.fewest(distance, TOP_DISTANCE), -1);
            DUE.is("distance and length " + distance, sky.fewest(distance, distance), -1);
        }
        for (int length : Due.outside(1, TOP_DISTANCE)) {
            DUE.is("length " + length, sky.fewest(1, length), -1);
        }
    }

    private static void stationsAtTheEdges() {
        DUE.sentence("Term 4: STATIONS, at most 4, from 0 on, stand at x, y, 0 .. 200 .. VALUE, 0 .. 999");
        SkyEcho sky = new SkyEcho();
        DUE.is("first", sky.station(0, 0, 0), 0);
        DUE.is("second", sky.station(EDGE, 0, TOP_VALUE), 1);
        DUE.is("third", sky.station(0, EDGE, 1), 2);
        DUE.is("fourth", sky.station(EDGE, EDGE, 998), 3);
        DUE.is("map at the first", sky.map(0, 0), 0);
        DUE.is("map at the second", sky.map(EDGE, 0), TOP_VALUE);
        DUE.is("map at the third", sky.map(0, EDGE), 1);
        DUE.is("map at the fourth", sky.map(EDGE, EDGE), 998);
        DUE.sentence("Promise 19: NONE: there are 4");
        DUE.is("a fifth", sky.station(1, 1, 5), -1);
        DUE.is("a fifth where one stands", sky.station(0, 0, 5), -1);
        DUE.is("how many", sky.count(0), 4);
        DUE.is("the first as before", sky.map(0, 0), 0);
    }

    private static void whereAnotherStands() {
        DUE.sentence("Promise 19: NONE: .. one stands there");
        SkyEcho sky = new SkyEcho();
        sky.station(3, 4, 10);
        DUE.is("the same place", sky.station(3, 4, 20), -1);
        DUE.is("its value stays", sky.map(3, 4), 10);
        DUE.is("how many", sky.count(0), 1);
        DUE.is("the same x", sky.station(3, 5, 30), 1);
        DUE.is("the same y", sky.station(4, 4, 40), 2);
        DUE.is("x and y the other way round", sky.station(4, 3, 50), 3);
        DUE.is("where the last one stands", sky.station(4, 3, 60), -1);
    }

    private static void stationRefusals() {
        DUE.sentence("Promise 19: NONE: .. or other numbers");
        SkyEcho sky = new SkyEcho();
        for (int x : Due.outside(0, EDGE)) {
            DUE.is("x " + x, sky.station(x, 1, 5), -1);
            DUE.is("y " + x, sky.station(1, x, 5), -1);
        }
        for (int value : Due.outside(0, TOP_VALUE)) {
            DUE.is("value " + value, sky.station(1, 1, value), -1);
        }
        DUE.is("none stands", sky.count(0), 0);
        DUE.is("no number is taken", sky.station(1, 1, 5), 0);
    }

    private static void tellRefusals() {
        DUE.sentence("Promise 20: A STATION's VALUE from now on: true");
        SkyEcho sky = new SkyEcho();
        DUE.is("none so far", sky.tellStation(0, 5), false);
        for (int i = 0; i < 4; i++) {
            sky.station(i, 0, 100);
            DUE.is("the last one", sky.tellStation(i, 10 * i), true);
            DUE.is("the next one", sky.tellStation(i + 1, 5), false);
        }
        for (int i = 0; i < 4; i++) {
            DUE.is("value of " + i, sky.map(i, 0), 10 * i);
        }
        for (int value : new int[] {0, TOP_VALUE}) {
            DUE.is("value " + value, sky.tellStation(3, value), true);
            DUE.is("told", sky.map(3, 0), value);
        }
        DUE.sentence("Promise 20: false: there is none such");
        for (int station : Due.outside(0, 3)) {
            DUE.is("station " + station, sky.tellStation(station, 5), false);
        }
        DUE.sentence("Promise 20: false: .. or another VALUE");
        for (int value : Due.outside(0, TOP_VALUE)) {
            DUE.is("value " + value, sky.tellStation(3, value), false);
        }
        DUE.is("as before", sky.map(3, 0), TOP_VALUE);
        DUE.is("how many", sky.count(0), 4);
    }

    private static void mapAtAStation() {
        DUE.sentence("Term 4: MAP at x, y: the VALUE of the STATION there");
        SkyEcho sky = new SkyEcho();
        sky.station(100, 100, 7);
        sky.station(100, 101, 900);
        DUE.is("at the first", sky.map(100, 100), 7);
        DUE.is("at the second", sky.map(100, 101), 900);
    }

    private static void mapBetweenStations() {
        DUE.sentence("Term 4: weighs 1 by its squared distance: all VALUES times weights, by all weights, cut");
        SkyEcho sky = new SkyEcho();
        sky.station(0, 0, TOP_VALUE);
        DUE.is("one alone, beside it", sky.map(1, 0), TOP_VALUE);
        DUE.is("one alone, far away", sky.map(EDGE, EDGE), TOP_VALUE);
        sky.station(EDGE, EDGE, 0);
        DUE.is("half way, cut", sky.map(100, 100), 499);
        DUE.is("half way, aside", sky.map(EDGE, 0), 499);
        // 999 / 1 and 0 / (199 * 199 + 200 * 200): less than 999 by less than 1.
        DUE.is("beside the first", sky.map(1, 0), 998);
        DUE.is("beside the second", sky.map(EDGE - 1, EDGE), 0);
        sky.tellStation(1, TOP_VALUE);
        DUE.is("alike", sky.map(17, 3), TOP_VALUE);
        SkyEcho near = new SkyEcho();
        near.station(0, 0, 7);
        near.station(3, 0, 10);
        DUE.is("7 / 1 and 10 / 4 by 5 / 4, cut", near.map(1, 0), 7);
        DUE.is("7 / 4 and 10 / 1 by 5 / 4, cut", near.map(2, 0), 9);
        near.tellStation(1, 12);
        DUE.is("7 / 1 and 12 / 4 by 5 / 4, whole", near.map(1, 0), 8);
        // Squared distances 5 and 8: (7 * 8 + 12 * 5) / 13 = 116 / 13.
        DUE.is("across", near.map(1, 2), 8);
    }

    private static void mapOfFour() {
        DUE.sentence("Term 4: each STATION's VALUE weighs .. (four of them, as far as can be)");
        SkyEcho sky = new SkyEcho();
        sky.station(0, 0, TOP_VALUE);
        sky.station(1, 0, TOP_VALUE);
        sky.station(0, 1, TOP_VALUE);
        sky.station(1, 1, TOP_VALUE);
        DUE.is("far from all, alike", sky.map(EDGE, EDGE), TOP_VALUE);
        sky.tellStation(3, 0);
        // The three others weigh 1 / 80000 and twice 1 / 79601; the fourth, a little nearer, 1 / 79202.
        DUE.is("far from all", sky.map(EDGE, EDGE), 747);
        SkyEcho cross = new SkyEcho();
        cross.station(99, 100, 1);
        cross.station(101, 100, 2);
        cross.station(100, 99, 3);
        cross.station(100, 101, 5);
        DUE.is("11 / 4", cross.map(100, 100), 2);
        cross.tellStation(3, 6);
        DUE.is("12 / 4", cross.map(100, 100), 3);
    }

    private static void mapRefusals() {
        DUE.sentence("Promise 21: NONE: there are no STATIONS");
        SkyEcho sky = new SkyEcho();
        DUE.is("at the first corner", sky.map(0, 0), -1);
        DUE.is("at the last corner", sky.map(EDGE, EDGE), -1);
        DUE.sentence("Promise 21: NONE: .. or x, y are not 0 .. 200");
        sky.station(0, 0, 5);
        for (int x : new int[] {0, EDGE}) {
            for (int y : new int[] {0, EDGE}) {
                DUE.is("corner " + x + " " + y, sky.map(x, y), 5);
            }
        }
        for (int x : Due.outside(0, EDGE)) {
            DUE.is("x " + x, sky.map(x, 0), -1);
            DUE.is("y " + x, sky.map(0, x), -1);
            DUE.is("both " + x, sky.map(x, x), -1);
        }
    }

    public static void main(String[] args) {
        greatestWholeNumber();
        justAtMost();
        justAtMostOfManyTriangles();
        farthestAndNearest();
        hopsRefusals();
        notLonger();
        fewestRefusals();
        stationsAtTheEdges();
        whereAnotherStands();
        stationRefusals();
        tellRefusals();
        mapAtAStation();
        mapBetweenStations();
        mapOfFour();
        mapRefusals();
        DUE.end();
    }
}
