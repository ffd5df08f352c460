/** Promises 7 to 10: lot, count, walk, sail. */
public final class ThereTest {
    private static final int[] OUTSIDE = {-1, 8, 64, Integer.MIN_VALUE, Integer.MAX_VALUE};

    public static void main(String[] args) {
        tellsQuarters();
        tellsBoats();
        tellsComplaintsAndDuesOfHouses();
        housesPayNothingLessThanNothing();
        tellsDuesOfWorkshopsAndMarkets();
        lotRefuses();
        counts();
        countRefuses();
        walks();
        walkRefuses();
        sails();
        sailRefuses();
        Check.end("ThereTest");
    }

    private static void tellsQuarters() {
        CanalCity city = new CanalCity();
        // The U of 16, 8, 0, 1, 2, 10, 18 has its least lot in its middle; 63 is apart, as is 7.
        Check.drainAll(city, 16, 18, 8, 10, 0, 2, 63, 7);
        Check.due("least of 16 ahead of the join", city.lot(0, 2, 1), 0);
        Check.due("least of 18 ahead of the join", city.lot(2, 2, 1), 2);
        Check.due("lots of 18 ahead of the join", city.lot(2, 2, 2), 3);
        city.drain(1, 0);
        for (int place : new int[] {0, 1, 2, 8, 10, 16, 18}) {
            Check.due("least of " + place, city.lot(place % 8, place / 8, 1), 0);
            Check.due("lots of " + place, city.lot(place % 8, place / 8, 2), 7);
        }
        Check.due("least of 63", city.lot(7, 7, 1), 63);
        Check.due("lots of 63", city.lot(7, 7, 2), 1);
        Check.due("7 is no neighbour of 8", city.lot(7, 0, 2), 1);
        Check.due("least of marsh", city.lot(1, 1, 1), -1);
        Check.due("lots of marsh", city.lot(1, 1, 2), 0);
        Check.due("least of a canal", city.lot(3, 0, 1), -1);
        Check.due("lots of a canal", city.lot(3, 0, 2), 0);
        Check.due("quarters", city.count(9), 3);
        city.bridge(3, 0);
        Check.due("least of a bridge", city.lot(3, 0, 1), 0);
        Check.due("lots of a bridge", city.lot(3, 0, 2), 8);
        city.dig(1, 0);
        Check.due("lots of 0 behind the cut", city.lot(0, 0, 2), 3);
        Check.due("least of the bridge behind the cut", city.lot(3, 0, 1), 2);
        Check.due("diagonal lots are no neighbours", city.count(9), 4);
    }

    private static void tellsBoats() {
        CanalCity city = new CanalCity();
        Check.drainAll(city, 2, 4, 1, 63);
        city.build(4, 0, 3);
        Check.due("a drained lot by the canal", city.lot(2, 0, 3), 1);
        Check.due("houses by the canal", city.lot(4, 0, 3), 1);
        Check.due("a lot away from it", city.lot(1, 0, 3), 0);
        Check.due("marsh by the canal", city.lot(2, 5, 3), 0);
        city.dig(7, 6);
        Check.due("closed water", city.lot(7, 6, 3), 0);
        Check.due("a lot by closed water", city.lot(7, 7, 3), 0);
        city.bridge(7, 6);
        Check.due("a bridge over closed water", city.lot(7, 6, 3), 0);
        city.bridge(3, 3);
        Check.due("a bridge over open water", city.lot(3, 3, 3), 1);
        Check.due("open water behind the bridge", city.lot(3, 7, 3), 1);
        city.drain(2, 3);
        Check.due("a lot by an open bridge", city.lot(2, 3, 3), 1);
        Check.digAll(city, 52, 53);
        city.drain(6, 6);
        Check.due("a lot by water newly opened", city.lot(6, 6, 3), 1);
        CanalCity closed = new CanalCity();
        closed.dig(5, 4);
        closed.bridge(5, 4);
        closed.dig(5, 5);
        Check.due("a closed bridge beside a closed canal", closed.lot(5, 4, 3), 0);
        closed.drain(6, 5);
        Check.due("a lot by both closed", closed.lot(6, 5, 3), 0);
        closed.dig(4, 5);
        Check.due("they are open when the gap is dug", closed.lot(5, 4, 3), 1);
        Check.due("the lot by them then", closed.lot(6, 5, 3), 1);
    }

    private static void tellsComplaintsAndDuesOfHouses() {
        CanalCity city = new CanalCity();
        Check.drainAll(city, 2, 10, 1, 9);
        Check.due("complaints of a drained lot", city.lot(2, 0, 4), 0);
        city.build(2, 0, 3);
        expectHouses(city, 2, 0, 2, 2);
        city.build(1, 0, 3);
        expectHouses(city, 1, 0, 3, 1);
        city.build(2, 1, 4);
        expectHouses(city, 2, 0, 3, 1);
        expectHouses(city, 1, 0, 3, 1);
        city.build(1, 1, 5);
        expectHouses(city, 2, 0, 1, 3);
        expectHouses(city, 1, 0, 1, 3);
        city.raze(2, 1);
        expectHouses(city, 2, 0, 0, 4);
        Check.due("complaints of a market", city.lot(1, 1, 4), 0);
        city.drain(4, 0);
        city.build(4, 0, 3);
        expectHouses(city, 4, 0, 2, 2);
        city.bridge(3, 0);
        expectHouses(city, 4, 0, 0, 4);
        city.raze(3, 0);
        expectHouses(city, 4, 0, 2, 2);
        Check.due("mean of all", city.count(10), 3);
    }

    private static void expectHouses(CanalCity city, int x, int y, int complaints, int dues) {
        Check.due("complaints of (" + x + ", " + y + ")", city.lot(x, y, 4), complaints);
        Check.due("dues of (" + x + ", " + y + ")", city.lot(x, y, 5), dues);
    }

    private static void housesPayNothingLessThanNothing() {
        CanalCity city = new CanalCity();
        Check.drainAll(city, 53, 45, 52, 54, 61);
        city.build(5, 6, 3);
        expectHouses(city, 5, 6, 3, 1);
        city.build(5, 5, 4);
        expectHouses(city, 5, 6, 4, 0);
        city.build(4, 6, 4);
        expectHouses(city, 5, 6, 5, 0);
        city.build(6, 6, 4);
        expectHouses(city, 5, 6, 6, 0);
        city.build(5, 7, 4);
        expectHouses(city, 5, 6, 7, 0);
        Check.due("complaints of all", city.count(10), 7);
        Check.due("dues of all", city.count(11), 11);
    }

    private static void tellsDuesOfWorkshopsAndMarkets() {
        CanalCity city = new CanalCity();
        Check.drainAll(city, 2, 1, 0, 9, 8, 63);
        city.build(2, 0, 4);
        Check.due("dues of a workshop by boat", city.lot(2, 0, 5), 5);
        Check.due("complaints of a workshop", city.lot(2, 0, 4), 0);
        city.build(7, 7, 4);
        Check.due("dues of a workshop away from it", city.lot(7, 7, 5), 2);
        city.build(1, 0, 5);
        Check.due("dues of a market without houses", city.lot(1, 0, 5), 0);
        city.build(1, 1, 3);
        Check.due("dues of a market with one", city.lot(1, 0, 5), 0);
        city.build(0, 0, 3);
        Check.due("dues of a market with two", city.lot(1, 0, 5), 1);
        city.build(0, 1, 3);
        Check.due("dues of a market with three", city.lot(1, 0, 5), 1);
        city.pass(20);
        city.drain(4, 0);
        city.build(4, 0, 3);
        Check.due("dues of a market, the fourth over the canal", city.lot(1, 0, 5), 1);
        city.bridge(3, 0);
        Check.due("dues of a market, the fourth by the bridge", city.lot(1, 0, 5), 2);
        Check.due("dues of a bridge", city.lot(3, 0, 5), 0);
        Check.due("dues of a canal", city.lot(3, 1, 5), 0);
        Check.due("dues of marsh", city.lot(7, 0, 5), 0);
        city.drain(5, 0);
        Check.due("dues of a drained lot", city.lot(5, 0, 5), 0);
        city.build(5, 0, 5);
        Check.due("dues of a second market", city.lot(5, 0, 5), 2);
    }

    private static void lotRefuses() {
        CanalCity city = new CanalCity();
        for (int bad : OUTSIDE) {
            Check.outside("lot(" + bad + ", 0, 0)", city, () -> city.lot(bad, 0, 0));
            Check.outside("lot(0, " + bad + ", 0)", city, () -> city.lot(0, bad, 0));
            Check.outside("lot(0, 0, " + bad + ")", city, () -> city.lot(0, 0, bad));
        }
        Check.outside("lot(0, 0, 6)", city, () -> city.lot(0, 0, 6));
    }

    private static void counts() {
        CanalCity city = new CanalCity();
        Check.drainAll(city, 2, 10, 1, 0, 4, 12);
        city.build(2, 0, 3);
        city.build(2, 1, 4);
        city.build(1, 0, 5);
        city.build(4, 0, 3);
        city.dig(7, 7);
        city.bridge(3, 7);
        // 60 - 6 * 2 - 4 - 6 - 5 - 4 - 3 - 7
        int[] due = {0, 19, 49, 8, 2, 2, 1, 1, 1, 3, 3, 10, 0};
        for (int what = 0; what < due.length; what++) {
            Check.due("count(" + what + ")", city.count(what), due[what]);
        }
        Check.due("pass(2)", city.pass(2), 20);
        Check.due("month", city.count(0), 2);
        Check.due("coins", city.count(1), 39);
        city.pass(60);
        Check.due("month", city.count(0), 62);
    }

    private static void countRefuses() {
        CanalCity city = new CanalCity();
        for (int bad : new int[] {-1, 13, 14, Integer.MIN_VALUE, Integer.MAX_VALUE}) {
            Check.outside("count(" + bad + ")", city, () -> city.count(bad));
        }
    }

    private static void walks() {
        CanalCity city = new CanalCity();
        // A ring around the marsh at 9, with a tail to 18 and 26; 7 ends its row, 8 begins the next.
        Check.drainAll(city, 0, 1, 2, 8, 10, 16, 17, 18, 26, 7);
        Check.due("walk(0, 0)", city.walk(0, 0), 0);
        Check.due("walk(0, 1)", city.walk(0, 1), 1);
        Check.due("walk(8, 10) around the marsh", city.walk(8, 10), 4);
        Check.due("walk(0, 26)", city.walk(0, 26), 5);
        Check.due("walk(26, 0)", city.walk(26, 0), 5);
        Check.due("walk(7, 8) is not beside", city.walk(7, 8), -1);
        Check.due("walk(0, 7)", city.walk(0, 7), -1);
        Check.drainAll(city, 4, 5, 6, 20, 12);
        Check.due("walk(2, 4) over a canal", city.walk(2, 4), -1);
        city.bridge(3, 2);
        Check.due("walk(2, 4) by the bridge", city.walk(2, 4), 6);
        Check.due("walk(19, 18) from the bridge", city.walk(19, 18), 1);
        city.build(2, 1, 3);
        Check.due("walk through houses", city.walk(2, 4), 6);
        city.bridge(3, 0);
        Check.due("walk(2, 4) by the nearer bridge", city.walk(2, 4), 2);
        Check.due("walk(0, 7)", city.walk(0, 7), 7);
    }

    private static void walkRefuses() {
        CanalCity city = new CanalCity();
        city.drain(0, 0);
        for (int bad : new int[] {-1, 64, 65, Integer.MIN_VALUE, Integer.MAX_VALUE}) {
            Check.outside("walk(" + bad + ", 0)", city, () -> city.walk(bad, 0));
            Check.outside("walk(0, " + bad + ")", city, () -> city.walk(0, bad));
            Check.outside("walk from marsh to " + bad, city, () -> city.walk(1, bad));
            Check.outside("walk from " + bad + " to a canal", city, () -> city.walk(bad, 3));
        }
        Check.state("walk(0, 1) to marsh", city, () -> city.walk(0, 1));
        Check.state("walk(1, 0) from marsh", city, () -> city.walk(1, 0));
        Check.state("walk(0, 3) to a canal", city, () -> city.walk(0, 3));
        Check.state("walk(63, 63) on marsh", city, () -> city.walk(63, 63));
        Check.state("walk(3, 3) on a canal", city, () -> city.walk(3, 3));
    }

    private static void sails() {
        CanalCity city = new CanalCity();
        for (int y = 0; y < 8; y++) {
            Check.due("sail down the first canal", city.sail(8 * y + 3), y);
        }
        Check.digAll(city, 33, 25, 17, 9, 32);
        Check.due("sail(33) while closed", city.sail(33), -1);
        city.bridge(1, 4);
        Check.due("sail(33) on a closed bridge", city.sail(33), -1);
        city.dig(2, 4);
        Check.due("sail(33) on an open bridge", city.sail(33), 6);
        Check.due("sail(32) under the bridge", city.sail(32), 7);
        Check.due("sail(9) the long way", city.sail(9), 9);
        city.dig(2, 1);
        Check.due("sail(9) the short way", city.sail(9), 3);
        Check.due("sail(33) is as near by both ways", city.sail(33), 6);
        city.bridge(3, 0);
        Check.due("sail(3) under a bridge", city.sail(3), 0);
        Check.due("sail(59)", city.sail(59), 7);
        Check.due("coins", city.count(1), 60 - 7 * 3 - 2 * 7);
    }

    private static void sailRefuses() {
        CanalCity city = new CanalCity();
        city.drain(2, 0);
        for (int bad : new int[] {-1, 64, 65, Integer.MIN_VALUE, Integer.MAX_VALUE}) {
            Check.outside("sail(" + bad + ")", city, () -> city.sail(bad));
        }
        Check.state("sail(0) on marsh", city, () -> city.sail(0));
        Check.state("sail(2) on a drained lot", city, () -> city.sail(2));
        for (int kind = 3; kind <= 5; kind++) {
            city.build(2, 0, kind);
            Check.state("sail(2) on kind " + kind, city, () -> city.sail(2));
            city.raze(2, 0);
        }
    }
}
