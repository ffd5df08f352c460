/** The edges of promises 7 to 10, lot, count, walk and sail, sentence by sentence. */
public final class ThereEdgesTest {
    private static final int[] NO_X = {-1, 8, -8, 64, Integer.MIN_VALUE, Integer.MAX_VALUE};
    private static final int[] NO_LOT = {-1, 64, 65, -64, 1 << 30, Integer.MIN_VALUE, Integer.MAX_VALUE};

    public static void main(String[] args) {
        lotsOfTheRimAnswer();
        lotRefusesXAndY();
        lotRefusesWhat();
        lotOfANewObject();
        lotOfKindsThatAreNoLand();
        countAnswers0To12();
        countRefusesTheRest();
        countOfNothingAndOfAll();
        countsOfKindsAreAlways64();
        countLeavesBridgesOutOfCanals();
        countSumsWhatWasLeft();
        walkAnswers0And63();
        walkRefusesLots();
        walkRefusesWhatIsNoLand();
        walkTellsTheFirstException();
        walkFrom0To35Steps();
        walkWithoutAWay();
        sailAnswers0And63();
        sailRefusesLots();
        sailRefusesWhatIsNoWater();
        sailFrom0To24Steps();
        sailWhereItIsClosed();
        askingChangesNothing();
        Check.end("ThereEdgesTest");
    }

    /** lot: x and y are "0 to 7", what is "0 to 5". */
    private static void lotsOfTheRimAnswer() {
        int[] rim = {0, 7};
        for (int x : rim) {
            for (int y : rim) {
                CanalCity city = new CanalCity();
                city.drain(x, y);
                city.build(x, y, 3);
                int[] due = {3, 8 * y + x, 1, 0, 3, 1};
                for (int what = 0; what <= 5; what++) {
                    Check.due("lot(" + x + ", " + y + ", " + what + ")", city.lot(x, y, what), due[what]);
                }
            }
        }
    }

    /** lot: "IndexOutOfBoundsException if x or y is not 0 to 7" */
    private static void lotRefusesXAndY() {
        CanalCity city = new CanalCity();
        city.drain(0, 0);
        for (int what = 0; what <= 5; what++) {
            int asked = what;
            for (int bad : NO_X) {
                Check.outside("lot(" + bad + ", 0, " + what + ")", city, () -> city.lot(bad, 0, asked));
                Check.outside("lot(7, " + bad + ", " + what + ")", city, () -> city.lot(7, bad, asked));
            }
        }
        Check.outside("lot(8, -1, 0), as if it was 0", city, () -> city.lot(8, -1, 0));
        Check.outside("lot(-1, 8, 0), as if it was 63", city, () -> city.lot(-1, 8, 0));
    }

    /** lot: "or what is not 0 to 5" */
    private static void lotRefusesWhat() {
        CanalCity city = new CanalCity();
        city.drain(0, 0);
        for (int bad : new int[] {-1, 6, 7, 12, 256, Integer.MIN_VALUE, Integer.MAX_VALUE}) {
            Check.outside("lot(0, 0, " + bad + ")", city, () -> city.lot(0, 0, bad));
            Check.outside("lot(3, 7, " + bad + ")", city, () -> city.lot(3, 7, bad));
            Check.outside("lot(8, 8, " + bad + ")", city, () -> city.lot(8, 8, bad));
        }
    }

    private static void lotOfANewObject() {
        CanalCity city = new CanalCity();
        for (int place = 0; place < 64; place++) {
            int canal = place % 8 == 3 ? 1 : 0;
            int[] due = {canal, -1, 0, canal, 0, 0};
            for (int what = 0; what <= 5; what++) {
                Check.due("lot " + place + ", " + what, city.lot(place % 8, place / 8, what), due[what]);
            }
        }
    }

    /** lot: "-1 if it is no land", "0 if it is no land", "else 0", "0 if it is no houses" */
    private static void lotOfKindsThatAreNoLand() {
        int[][] due = {
            {0, -1, 0, 0, 0, 0},
            {1, -1, 0, 0, 0, 0},
            {2, 9, 1, 0, 0, 0},
            {3, 9, 1, 0, 3, 1},
            {4, 9, 1, 0, 0, 2},
            {5, 9, 1, 0, 0, 0},
            {6, 9, 1, 0, 0, 0},
        };
        int[] openThen = {0, 1, 1, 1, 1, 1, 1};
        for (int kind = 0; kind <= 6; kind++) {
            CanalCity city = Cities.withOne(kind);
            for (int what = 0; what <= 5; what++) {
                Check.due("lot of kind " + kind + ", " + what, city.lot(1, 1, what), due[kind][what]);
            }
            city.dig(2, 1);
            Check.due("kind " + kind + " by open water", city.lot(1, 1, 3), openThen[kind]);
        }
    }

    /** count: what is "0 the month" to "12 lots of houses that were left in all" */
    private static void countAnswers0To12() {
        CanalCity city = new CanalCity();
        Check.drainAll(city, 45, 53, 2, 1, 56);
        city.build(5, 5, 3);
        city.build(5, 6, 4);
        city.build(2, 0, 3);
        city.build(1, 0, 5);
        city.bridge(3, 7);
        city.pass(2);
        // The houses at 45 were left and sank; 2 and 1 are one quarter, 53, 56 and the bridge one each.
        int[] due = {2, 60 - 10 - 4 - 6 - 4 - 5 - 7 + 6 + 6, 52, 7, 1, 1, 1, 1, 1, 4, 0, 6, 1};
        for (int what = 0; what <= 12; what++) {
            Check.due("count(" + what + ")", city.count(what), due[what]);
        }
    }

    /** count: "IndexOutOfBoundsException if what is not 0 to 12" */
    private static void countRefusesTheRest() {
        CanalCity[] cities = {new CanalCity(), Cities.full(3)};
        for (CanalCity city : cities) {
            for (int bad : new int[] {-1, 13, 14, -13, 256, 1 << 30, Integer.MIN_VALUE, Integer.MAX_VALUE}) {
                Check.outside("count(" + bad + ")", city, () -> city.count(bad));
            }
        }
    }

    private static void countOfNothingAndOfAll() {
        for (int kind = 2; kind <= 5; kind++) {
            CanalCity city = Cities.full(kind);
            for (int what = 2; what <= 8; what++) {
                int due = what == 3 ? 8 : what == kind + 2 ? 56 : 0;
                Check.due("count(" + what + ") full of kind " + kind, city.count(what), due);
            }
            Check.due("quarters on both banks", city.count(9), 2);
            Check.due("complaints", city.count(10), kind == 3 ? 16 * 2 + 40 * 3 : 0);
            Check.due("dues", city.count(11), kind == 3 ? 16 * 2 + 40 : kind == 4 ? 16 * 5 + 40 * 2 : 0);
        }
        CanalCity water = Cities.fullOfCanals();
        Check.due("canals", water.count(3), 64);
        Check.due("quarters of water", water.count(9), 0);
        CanalCity bridges = Cities.fullOfBridges();
        Check.due("bridges", bridges.count(8), 64);
        Check.due("quarters of bridges", bridges.count(9), 1);
        Check.due("complaints of bridges", bridges.count(10), 0);
        Check.due("dues of bridges", bridges.count(11), 0);
        Check.due("quarters, at most", Cities.chessboard(1).count(9), 32);
        Check.due("a city that was rich first: the month", Cities.rich().count(0), Cities.MONTH_OF_RICH);
    }

    private static void countsOfKindsAreAlways64() {
        for (int kind = 0; kind <= 6; kind++) {
            CanalCity city = Cities.withOne(kind);
            int all = 0;
            for (int what = 2; what <= 8; what++) {
                int due = (what == 2 ? 55 : what == 3 ? 8 : 0) + (what == kind + 2 ? 1 : 0);
                Check.due("count(" + what + ") with kind " + kind, city.count(what), due);
                all += city.count(what);
            }
            Check.due("all kinds with " + kind, all, 64);
        }
    }

    /** count: "3 canals", "8 bridges": a canal with a bridge over it is of the kind 6, not 1. */
    private static void countLeavesBridgesOutOfCanals() {
        CanalCity city = Cities.rich();
        for (int y = 0; y < 8; y++) {
            city.bridge(3, y);
            Check.due("canals", city.count(3), 7 - y);
            Check.due("bridges", city.count(8), y + 1);
        }
        for (int y = 0; y < 8; y++) {
            city.raze(3, y);
            Check.due("canals again", city.count(3), y + 1);
            Check.due("bridges left", city.count(8), 7 - y);
        }
    }

    /** count: "12 lots of houses that were left in all": several in a month, and in later months again. */
    private static void countSumsWhatWasLeft() {
        CanalCity city = Cities.full(4);
        int[] houses = {0, 7, 56, 63, 9, 14};
        for (int round = 1; round <= 3; round++) {
            for (int place : houses) {
                city.raze(place % 8, place / 8);
                city.build(place % 8, place / 8, 3);
            }
            Check.due("left ahead", city.count(12), (round - 1) * houses.length);
            city.pass(1);
            Check.due("left behind", city.count(12), round * houses.length);
            Check.due("houses behind", city.count(5), 0);
            for (int place : houses) {
                city.build(place % 8, place / 8, 4);
            }
        }
        city.pass(60);
        Check.due("left when no houses are there", city.count(12), 3 * houses.length);
    }

    /** walk: a and b are "0 to 63" */
    private static void walkAnswers0And63() {
        CanalCity bridges = Cities.fullOfBridges();
        Check.due("walk(0, 63)", bridges.walk(0, 63), 14);
        Check.due("walk(63, 0)", bridges.walk(63, 0), 14);
        Check.due("walk(0, 0)", bridges.walk(0, 0), 0);
        Check.due("walk(63, 63)", bridges.walk(63, 63), 0);
        for (int place = 0; place < 64; place++) {
            Check.due("walk(0, " + place + ")", bridges.walk(0, place), place % 8 + place / 8);
            Check.due("walk(" + place + ", 56)", bridges.walk(place, 56), place % 8 + 7 - place / 8);
        }
        CanalCity two = new CanalCity();
        Check.drainAll(two, 0, 63);
        Check.due("walk(0, 0) alone", two.walk(0, 0), 0);
        Check.due("walk(63, 63) alone", two.walk(63, 63), 0);
        Check.due("walk(0, 63) apart", two.walk(0, 63), -1);
    }

    /** walk: "IndexOutOfBoundsException if a or b is not 0 to 63" */
    private static void walkRefusesLots() {
        CanalCity city = Cities.fullOfBridges();
        for (int bad : NO_LOT) {
            Check.outside("walk(" + bad + ", 0)", city, () -> city.walk(bad, 0));
            Check.outside("walk(63, " + bad + ")", city, () -> city.walk(63, bad));
            Check.outside("walk(" + bad + ", " + bad + ")", city, () -> city.walk(bad, bad));
        }
    }

    /** walk: "IllegalStateException if one of them is no land" */
    private static void walkRefusesWhatIsNoLand() {
        for (int kind = 0; kind <= 6; kind++) {
            CanalCity city = Cities.withOne(kind);
            city.drain(0, 1);
            if (kind >= 2) {
                Check.due("walk from kind " + kind, city.walk(9, 8), 1);
                Check.due("walk to kind " + kind, city.walk(8, 9), 1);
            } else {
                Check.state("walk from kind " + kind, city, () -> city.walk(9, 8));
                Check.state("walk to kind " + kind, city, () -> city.walk(8, 9));
                Check.state("walk on kind " + kind, city, () -> city.walk(9, 9));
                Check.state("walk from kind " + kind + " to marsh", city, () -> city.walk(9, 63));
                Check.state("walk from kind " + kind + " to a canal", city, () -> city.walk(9, 59));
            }
        }
    }

    /** "If several exceptions apply, the one that is named first is thrown." */
    private static void walkTellsTheFirstException() {
        CanalCity city = new CanalCity();
        for (int bad : NO_LOT) {
            Check.outside("walk(" + bad + ", marsh)", city, () -> city.walk(bad, 0));
            Check.outside("walk(marsh, " + bad + ")", city, () -> city.walk(0, bad));
            Check.outside("walk(canal, " + bad + ")", city, () -> city.walk(3, bad));
            Check.outside("walk(" + bad + ", canal)", city, () -> city.walk(bad, 59));
        }
    }

    /** walk: "the fewest steps on foot from the one to the other one, each to a neighbour of land" */
    private static void walkFrom0To35Steps() {
        CanalCity city = Cities.rich();
        int[] way = new int[36];
        int steps = 0;
        for (int y = 0; y < 8; y += 2) {
            for (int i = 0; i < 8; i++) {
                way[steps++] = 8 * y + (y % 4 == 0 ? i : 7 - i);
            }
            way[steps++] = 8 * (y + 1) + (y % 4 == 0 ? 7 : 0);
        }
        for (int place : way) {
            if (place % 8 == 3) {
                city.bridge(3, place / 8);
            } else {
                city.drain(place % 8, place / 8);
            }
        }
        for (int i = 0; i < way.length; i++) {
            Check.due("steps from the start to " + way[i], city.walk(way[0], way[i]), i);
            Check.due("steps from the end to " + way[i], city.walk(way[35], way[i]), 35 - i);
            Check.due("steps from " + way[i] + " to itself", city.walk(way[i], way[i]), 0);
        }
        city.drain(0, 1);
        Check.due("a shorter way to the next row", city.walk(0, 16), 2);
        Check.due("a shorter way to the end", city.walk(0, 56), 2 + 35 - 16);
    }

    /** walk: "-1 if there is no such way" */
    private static void walkWithoutAWay() {
        CanalCity city = Cities.full(2);
        Check.due("over the canal", city.walk(2, 4), -1);
        Check.due("from end to end", city.walk(0, 63), -1);
        city.bridge(3, 7);
        Check.due("by the farthest bridge", city.walk(2, 4), 7 + 2 + 7);
        Check.due("from end to end", city.walk(0, 63), 14);
        city.raze(3, 7);
        Check.due("the bridge is gone", city.walk(0, 63), -1);
        CanalCity corners = Cities.chessboard(0);
        for (int place = 2; place < 64; place++) {
            if ((place % 8 + place / 8) % 2 == 0) {
                Check.due("no way to " + place, corners.walk(0, place), -1);
            }
        }
    }

    /** sail: lot is "0 to 63" */
    private static void sailAnswers0And63() {
        CanalCity[] cities = {Cities.fullOfCanals(), Cities.fullOfBridges()};
        for (CanalCity city : cities) {
            for (int place = 0; place < 64; place++) {
                Check.due("sail(" + place + ")", city.sail(place), Math.abs(place % 8 - 3) + place / 8);
            }
        }
    }

    /** sail: "IndexOutOfBoundsException if lot is not 0 to 63" */
    private static void sailRefusesLots() {
        CanalCity[] cities = {new CanalCity(), Cities.fullOfCanals()};
        for (CanalCity city : cities) {
            for (int bad : NO_LOT) {
                Check.outside("sail(" + bad + ")", city, () -> city.sail(bad));
            }
        }
    }

    /** sail: "IllegalStateException if it is no water" */
    private static void sailRefusesWhatIsNoWater() {
        for (int kind = 0; kind <= 6; kind++) {
            CanalCity city = Cities.withOne(kind);
            if (kind == 1 || kind == 6) {
                Check.due("sail on closed water of kind " + kind, city.sail(9), -1);
            } else {
                Check.state("sail on kind " + kind, city, () -> city.sail(9));
            }
            Check.state("sail(0) on marsh", city, () -> city.sail(0));
            Check.state("sail(63) on marsh", city, () -> city.sail(63));
        }
    }

    /** sail: "the fewest steps by boat from there to the sea gate, each to a neighbour of water" */
    private static void sailFrom0To24Steps() {
        CanalCity city = Cities.rich();
        int[] way = {3, 11, 19, 27, 35, 43, 51, 59, 60, 61, 62, 63, 55, 47, 46, 45, 37, 29, 30, 31, 23, 15, 14, 13, 5};
        for (int i = 8; i < way.length; i++) {
            city.dig(way[i] % 8, way[i] / 8);
        }
        for (int i = 0; i < way.length; i++) {
            Check.due("sail(" + way[i] + ")", city.sail(way[i]), i);
        }
        for (int place : way) {
            city.bridge(place % 8, place / 8);
        }
        for (int i = 0; i < way.length; i++) {
            Check.due("sail(" + way[i] + ") under bridges", city.sail(way[i]), i);
        }
        city.drain(4, 0);
        Check.due("land is no shorter way", city.sail(5), 24);
        city.dig(4, 0);
        Check.due("a shorter way", city.sail(5), 2);
        Check.due("and from behind", city.sail(63), 11);
        Check.due("and from between", city.sail(29), 9);
    }

    /** sail: "-1 if it is not open" */
    private static void sailWhereItIsClosed() {
        CanalCity city = Cities.rich();
        Check.digAll(city, 0, 1, 9, 63, 62, 54);
        for (int place : new int[] {0, 1, 9, 63, 62, 54}) {
            Check.due("sail(" + place + ") while closed", city.sail(place), -1);
        }
        city.dig(2, 0);
        Check.due("sail(0) then", city.sail(0), 3);
        Check.due("sail(9) then", city.sail(9), 3);
        Check.due("sail(63) still", city.sail(63), -1);
        Check.digAll(city, 60, 61);
        Check.due("sail(63) then", city.sail(63), 11);
    }

    private static void askingChangesNothing() {
        CanalCity city = Cities.withOne(3);
        city.drain(0, 1);
        long before = city.digest();
        for (int what = 0; what <= 12; what++) {
            city.count(what);
        }
        for (int what = 0; what <= 5; what++) {
            city.lot(1, 1, what);
        }
        city.walk(8, 9);
        city.sail(59);
        Check.due("digest behind asking", city.digest(), before);
    }
}
