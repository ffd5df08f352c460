/** The edges that the document's Terms name: lots, land, quarters, water, complaints, dues, coins, months. */
public final class TermsEdgesTest {
    public static void main(String[] args) {
        lotsAreNumberedFrom0To63();
        neighboursEndAtTheRim();
        noNeighbourAroundACornerOrAnEnd();
        firstCanalsAreThoseWithTheX3();
        landIsOfTheKinds2To6();
        quartersOfOneLotAndOfAll();
        theSeaGateIsOpen();
        waterIsOfTheKinds1And6();
        waterThatTouchesAtACornerIsClosed();
        byBoatNeedsANeighbourOfOpenWater();
        noBridgeIsByBoat();
        complaintsFrom0To7();
        duesOfHousesAreAtLeast0();
        duesOfWorkshops();
        duesOfMarketsAreCut();
        allOthersPayNothing();
        houses3Stay4AreLeft();
        sinkingNeeds3NeighboursOfMarsh();
        outsideIsNoMarsh();
        allSinkAtOnce();
        leftLotsSinkInTheSameMonth();
        duesComeInAheadOfLeaving();
        anObjectAnswers512Calls();
        Check.end("TermsEdgesTest");
    }

    /** "There are 8 times 8, each with an x and a y, 0 to 7, told as 8 * y + x as well" */
    private static void lotsAreNumberedFrom0To63() {
        for (int odd = 0; odd <= 1; odd++) {
            CanalCity city = Cities.chessboard(odd);
            for (int place = 0; place < 64; place++) {
                int x = place % 8;
                int y = place / 8;
                boolean land = (x + y) % 2 == odd;
                Check.due("number of (" + x + ", " + y + ")", city.lot(x, y, 1), land ? 8 * y + x : -1);
            }
        }
    }

    /** "neighbours of a lot are those beside it": two in a corner, three at the rim, else four. */
    private static void neighboursEndAtTheRim() {
        CanalCity city = Cities.full(4);
        for (int place = 0; place < 64; place++) {
            int x = place % 8;
            int y = place / 8;
            if (x == 3) {
                continue;
            }
            city.raze(x, y);
            city.build(x, y, 3);
            boolean bank = x == 2 || x == 4;
            int workshops = 4 - (x == 0 || x == 7 ? 1 : 0) - (y == 0 || y == 7 ? 1 : 0) - (bank ? 1 : 0);
            Check.due("complaints amid workshops at " + place, city.lot(x, y, 4), 2 + workshops + (bank ? 0 : 1));
            city.raze(x, y);
            city.build(x, y, 4);
        }
    }

    /** "(its x or its y differs by 1, the other one is the same)" */
    private static void noNeighbourAroundACornerOrAnEnd() {
        CanalCity city = new CanalCity();
        Check.drainAll(city, 7, 8, 15, 16, 22, 62, 6);
        Check.due("7 and 8: an end and the next start", city.walk(7, 8), -1);
        Check.due("7 and 15: one below the other", city.walk(7, 15), 1);
        Check.due("15 and 16: an end and the next start", city.walk(15, 16), -1);
        Check.due("15 and 22: corner to corner", city.walk(15, 22), -1);
        Check.due("8 and 16: one below the other", city.walk(8, 16), 1);
        Check.due("8 and 15: both ends of a row", city.walk(8, 15), -1);
        Check.due("6 and 62: both ends of a column", city.walk(6, 62), -1);
        Check.due("6 and 7: side by side", city.walk(6, 7), 1);
    }

    /** "At first the lots with the x 3 are canals." */
    private static void firstCanalsAreThoseWithTheX3() {
        CanalCity city = new CanalCity();
        for (int y = 0; y < 8; y++) {
            Check.due("kind of (2, " + y + ")", city.lot(2, y, 0), 0);
            Check.due("kind of (3, " + y + ")", city.lot(3, y, 0), 1);
            Check.due("kind of (4, " + y + ")", city.lot(4, y, 0), 0);
        }
    }

    /** "Land: lots of the kinds 2 to 6, bridges too." */
    private static void landIsOfTheKinds2To6() {
        for (int kind = 0; kind <= 6; kind++) {
            CanalCity city = Cities.withOne(kind);
            boolean land = kind >= 2;
            Check.due("least of the quarter of kind " + kind, city.lot(1, 1, 1), land ? 9 : -1);
            Check.due("lots of the quarter of kind " + kind, city.lot(1, 1, 2), land ? 1 : 0);
            Check.due("quarters with a lot of kind " + kind, city.count(9), land ? 1 : 0);
            if (land) {
                Check.due("walk on kind " + kind, city.walk(9, 9), 0);
            } else {
                Check.state("walk on kind " + kind, city, () -> city.walk(9, 9));
            }
        }
    }

    /** "Quarter of a lot of land: it, and all lots of land that are reached from it" */
    private static void quartersOfOneLotAndOfAll() {
        CanalCity apart = Cities.chessboard(0);
        Check.due("quarters of a chessboard", apart.count(9), 32);
        Check.due("lots of the last one's", apart.lot(7, 7, 2), 1);
        CanalCity halves = Cities.full(2);
        Check.due("quarters beside the canal", halves.count(9), 2);
        Check.due("lots of the left one", halves.lot(0, 7, 2), 24);
        Check.due("lots of the right one", halves.lot(7, 0, 2), 32);
        Check.due("least of the right one", halves.lot(7, 7, 1), 4);
        Check.due("the bridge that joins both", halves.bridge(3, 7), 57);
        Check.due("least of the right one behind it", halves.lot(7, 7, 1), 0);
        for (int y = 0; y < 7; y++) {
            Check.due("bridge over (3, " + y + ")", halves.bridge(3, y), 58 + y);
        }
        expectOneQuarterOf64("land all over", halves);
        expectOneQuarterOf64("bridges all over", Cities.fullOfBridges());
    }

    private static void expectOneQuarterOf64(String what, CanalCity city) {
        Check.due("quarters, " + what, city.count(9), 1);
        for (int place = 0; place < 64; place++) {
            Check.due("least of " + place + ", " + what, city.lot(place % 8, place / 8, 1), 0);
            Check.due("lots of " + place + ", " + what, city.lot(place % 8, place / 8, 2), 64);
        }
    }

    /** "It is open, if it is the lot with the x 3 and the y 0 (the sea gate), or is reached from it" */
    private static void theSeaGateIsOpen() {
        CanalCity city = new CanalCity();
        Check.due("the sea gate", city.lot(3, 0, 3), 1);
        Check.due("the far end of the first canal", city.lot(3, 7, 3), 1);
        city.bridge(3, 0);
        Check.due("the sea gate under a bridge", city.lot(3, 0, 3), 1);
        Check.due("the far end behind that bridge", city.lot(3, 7, 3), 1);
        CanalCity water = Cities.fullOfCanals();
        CanalCity bridges = Cities.fullOfBridges();
        for (int place = 0; place < 64; place++) {
            Check.due("open amid canals: " + place, water.lot(place % 8, place / 8, 3), 1);
            Check.due("open amid bridges: " + place, bridges.lot(place % 8, place / 8, 3), 1);
        }
    }

    /** "Water: lots of the kinds 1 and 6." */
    private static void waterIsOfTheKinds1And6() {
        for (int kind = 0; kind <= 6; kind++) {
            CanalCity city = Cities.withOne(kind);
            boolean water = kind == 1 || kind == 6;
            if (water) {
                Check.due("sail on kind " + kind + ", closed", city.sail(9), -1);
                Check.due("open, kind " + kind, city.lot(1, 1, 3), 0);
                city.dig(2, 1);
                Check.due("sail on kind " + kind, city.sail(9), 3);
                Check.due("open then, kind " + kind, city.lot(1, 1, 3), 1);
                city.dig(0, 1);
                Check.due("sail by way of kind " + kind, city.sail(8), 4);
            } else {
                Check.state("sail on kind " + kind, city, () -> city.sail(9));
                city.dig(2, 1);
                city.dig(0, 1);
                Check.due("no way by kind " + kind, city.sail(8), -1);
                Check.due("closed behind kind " + kind, city.lot(0, 1, 3), 0);
            }
        }
    }

    private static void waterThatTouchesAtACornerIsClosed() {
        CanalCity city = new CanalCity();
        Check.digAll(city, 18, 9, 0, 34, 33, 32, 31);
        Check.due("beside the canal", city.lot(2, 2, 3), 1);
        Check.due("corner to corner with that", city.lot(1, 1, 3), 0);
        Check.due("corner to corner with closed water", city.lot(0, 0, 3), 0);
        Check.due("open at the left rim", city.lot(0, 4, 3), 1);
        Check.due("the end of the row above it", city.lot(7, 3, 3), 0);
        city.dig(2, 1);
        Check.due("joined", city.lot(1, 1, 3), 1);
        Check.due("not joined yet", city.lot(0, 0, 3), 0);
    }

    /** "A lot of land that is no bridge is by boat, if it has a neighbour of open water." */
    private static void byBoatNeedsANeighbourOfOpenWater() {
        CanalCity banks = Cities.full(2);
        for (int place = 0; place < 64; place++) {
            int x = place % 8;
            Check.due("by boat or open: " + place, banks.lot(x, place / 8, 3), x >= 2 && x <= 4 ? 1 : 0);
        }
        // The water is below 1, above 17, to the right of 8 and to the left of 46; 0 and 16 touch corners.
        int[] places = {1, 17, 8, 46, 0, 16};
        for (int kind = 2; kind <= 5; kind++) {
            CanalCity city = Cities.rich();
            Check.digAll(city, 10, 9, 44, 45);
            Check.drainAll(city, places);
            for (int place : places) {
                if (kind > 2) {
                    city.build(place % 8, place / 8, kind);
                }
                boolean corner = place == 0 || place == 16;
                Check.due("kind " + kind + " at " + place, city.lot(place % 8, place / 8, 3), corner ? 0 : 1);
            }
        }
        CanalCity marsh = new CanalCity();
        Check.due("marsh by open water is no land", marsh.lot(2, 0, 3), 0);
        CanalCity closed = new CanalCity();
        Check.digAll(closed, 62, 55);
        closed.drain(7, 7);
        Check.due("by closed water on both sides", closed.lot(7, 7, 3), 0);
        CanalCity bridged = new CanalCity();
        bridged.bridge(3, 0);
        bridged.drain(2, 0);
        Check.due("by open water under a bridge", bridged.lot(2, 0, 3), 1);
    }

    private static void noBridgeIsByBoat() {
        CanalCity city = new CanalCity();
        Check.digAll(city, 45, 46);
        city.bridge(5, 5);
        Check.due("a bridge by a closed canal", city.lot(5, 5, 3), 0);
        city.bridge(6, 5);
        Check.due("a bridge by a closed bridge", city.lot(6, 5, 3), 0);
        city.drain(7, 5);
        Check.due("land by a closed bridge", city.lot(7, 5, 3), 0);
        city.dig(4, 5);
        Check.due("the bridges are over open water then", city.lot(5, 5, 3) + city.lot(6, 5, 3), 2);
        Check.due("land by the open bridge", city.lot(7, 5, 3), 1);
    }

    /** Houses at (1, 1), by boat or not, with a market in their quarter or not, amid 0 to 4 workshops. */
    private static CanalCity amidWorkshops(int workshops, boolean market, boolean boat) {
        CanalCity city = Cities.rich();
        int[] beside = {1, 8, 10, 17};
        int next = 0;
        city.drain(1, 1);
        city.build(1, 1, 3);
        if (boat) {
            city.dig(1, 0);
            city.dig(2, 0);
            next = 1;
        }
        for (int i = 0; i < workshops; i++) {
            int place = beside[next + i];
            city.drain(place % 8, place / 8);
            city.build(place % 8, place / 8, 4);
        }
        if (market) {
            // Beside the houses if no workshop is there, else behind one of them.
            if (city.lot(1, 2, 0) == 0) {
                city.drain(1, 2);
                city.build(1, 2, 5);
            } else {
                city.drain(1, 3);
                city.build(1, 3, 5);
            }
        }
        return city;
    }

    /** "Complaints of houses: 2 without a market ...; 1 for each workshop ...; 1 if they are not by boat." */
    private static void complaintsFrom0To7() {
        for (int workshops = 0; workshops <= 4; workshops++) {
            for (int market = 0; market <= 1; market++) {
                for (int boat = 0; boat <= 1 && workshops + boat <= 4; boat++) {
                    CanalCity city = amidWorkshops(workshops, market == 1, boat == 1);
                    int complaints = workshops + 2 * (1 - market) + 1 - boat;
                    String what = workshops + " workshops, market " + market + ", boat " + boat;
                    Check.due("complaints, " + what, city.lot(1, 1, 4), complaints);
                    Check.due("complaints of all, " + what, city.count(10), complaints);
                    Check.due("mean, " + what, city.mean(), (double) complaints);
                    Check.due("dues, " + what, city.lot(1, 1, 5), Math.max(0, 4 - complaints));
                }
            }
        }
        CanalCity bridges = Cities.fullOfCanals();
        Check.due("complaints without houses", bridges.count(10), 0);
    }

    /** "houses pay 4 less their complaints, at least 0": 4, 1 and 0 coins, and 0 beyond that. */
    private static void duesOfHousesAreAtLeast0() {
        Check.due("dues at 0 complaints", amidWorkshops(0, true, true).lot(1, 1, 5), 4);
        Check.due("dues at 3 complaints", amidWorkshops(0, false, false).lot(1, 1, 5), 1);
        Check.due("dues at 4 complaints", amidWorkshops(1, false, false).lot(1, 1, 5), 0);
        Check.due("dues at 5 complaints", amidWorkshops(2, false, false).lot(1, 1, 5), 0);
        CanalCity most = amidWorkshops(4, false, false);
        Check.due("complaints at most", most.lot(1, 1, 4), 7);
        Check.due("dues at 7 complaints", most.lot(1, 1, 5), 0);
        Check.due("dues of all there: the workshop at (2, 1) is by boat", most.count(11), 5 + 3 * 2);
    }

    /** "a workshop pays 5 by boat, otherwise 2" */
    private static void duesOfWorkshops() {
        CanalCity city = Cities.full(4);
        for (int place = 0; place < 64; place++) {
            int x = place % 8;
            int dues = x == 3 ? 0 : x == 2 || x == 4 ? 5 : 2;
            Check.due("dues of the workshop " + place, city.lot(x, place / 8, 5), dues);
        }
        Check.due("dues of all workshops", city.count(11), 16 * 5 + 40 * 2);
        Check.due("complaints of all workshops", city.count(10), 0);
    }

    /** "a market pays half (cut) of how many lots of houses are in its quarter" */
    private static void duesOfMarketsAreCut() {
        CanalCity city = Cities.rich();
        Check.drainAll(city, 0, 1, 2, 8, 9);
        city.build(0, 0, 5);
        int[] places = {1, 2, 8, 9};
        Check.due("dues of a market, 0 houses", city.lot(0, 0, 5), 0);
        for (int houses = 1; houses <= places.length; houses++) {
            int place = places[houses - 1];
            city.build(place % 8, place / 8, 3);
            Check.due("dues of a market, houses: " + houses, city.lot(0, 0, 5), houses / 2);
        }
        CanalCity full = Cities.full(3);
        full.raze(7, 7);
        full.build(7, 7, 5);
        Check.due("dues of a market, 31 houses on its side", full.lot(7, 7, 5), 15);
        full.bridge(3, 4);
        Check.due("dues of a market, 55 houses", full.lot(7, 7, 5), 27);
        full.raze(0, 0);
        Check.due("dues of a market, 54 houses", full.lot(7, 7, 5), 27);
        full.raze(1, 0);
        Check.due("dues of a market, 53 houses", full.lot(7, 7, 5), 26);
        full.build(1, 0, 5);
        Check.due("dues of the other market", full.lot(1, 0, 5), 26);
        Check.due("dues of markets alone", Cities.full(5).count(11), 0);
    }

    /** "all others pay nothing" */
    private static void allOthersPayNothing() {
        CanalCity[] cities = {new CanalCity(), Cities.full(2), Cities.fullOfCanals(), Cities.fullOfBridges()};
        for (CanalCity city : cities) {
            Check.due("dues of all", city.count(11), 0);
            for (int place = 0; place < 64; place++) {
                Check.due("dues of " + place, city.lot(place % 8, place / 8, 5), 0);
                Check.due("complaints of " + place, city.lot(place % 8, place / 8, 4), 0);
            }
        }
    }

    /** "Houses with 4 complaints or more ... are left: their lots are drained then." */
    private static void houses3Stay4AreLeft() {
        for (int workshops = 0; workshops <= 4; workshops++) {
            CanalCity city = amidWorkshops(workshops, false, false);
            int complaints = workshops + 3;
            city.pass(1);
            boolean left = complaints >= 4;
            Check.due("left at " + complaints + " complaints", city.count(12), left ? 1 : 0);
            Check.due("houses at " + complaints + " complaints", city.count(5), left ? 0 : 1);
            // With a single workshop beside it the lot has three neighbours of marsh, and sinks.
            Check.due("kind at " + complaints + " complaints", city.lot(1, 1, 0), !left ? 3 : workshops == 1 ? 0 : 2);
        }
        CanalCity market = amidWorkshops(3, true, false);
        Check.due("3 workshops and no boats", market.lot(1, 1, 4), 4);
        market.pass(1);
        Check.due("left with a market", market.count(12), 1);
        CanalCity boat = amidWorkshops(3, true, true);
        Check.due("3 workshops alone", boat.lot(1, 1, 4), 3);
        boat.pass(60);
        Check.due("nobody left", boat.count(12), 0);
        CanalCity full = Cities.full(3);
        full.pass(60);
        Check.due("houses alone stay, with 3 complaints at most", full.count(5), 56);
        Check.due("none left", full.count(12), 0);
    }

    /** "Drained lots with three neighbours of marsh or more ... are marsh then": 4, 3, 2, 1 and 0 of marsh. */
    private static void sinkingNeeds3NeighboursOfMarsh() {
        int[] beside = {37, 44, 46, 53};
        for (int canals = 0; canals <= 4; canals++) {
            CanalCity city = Cities.rich();
            city.drain(5, 5);
            for (int i = 0; i < canals; i++) {
                city.dig(beside[i] % 8, beside[i] / 8);
            }
            Check.due("pass(1)", city.pass(1), 0);
            Check.due("kind with " + (4 - canals) + " of marsh", city.lot(5, 5, 0), canals <= 1 ? 0 : 2);
            city.pass(60);
            Check.due("kind much later", city.lot(5, 5, 0), canals <= 1 ? 0 : 2);
        }
        for (int kind = 1; kind <= 6; kind++) {
            CanalCity city = Cities.withOne(kind);
            city.pass(1);
            Check.due("kind " + kind + " amid marsh", city.lot(1, 1, 0), kind == 2 ? 0 : kind);
        }
    }

    /** "(what lies outside is no marsh)" */
    private static void outsideIsNoMarsh() {
        CanalCity city = new CanalCity();
        int[] corners = {0, 7, 56, 63};
        int[] rims = {16, 23, 5, 61};
        Check.drainAll(city, corners);
        Check.drainAll(city, rims);
        Check.drainAll(city, 2, 58);
        city.pass(1);
        for (int corner : corners) {
            Check.due("a corner with two of marsh: " + corner, city.lot(corner % 8, corner / 8, 0), 2);
        }
        for (int rim : rims) {
            Check.due("a rim with three of marsh: " + rim, city.lot(rim % 8, rim / 8, 0), 0);
        }
        Check.due("a rim with two of marsh and a canal", city.lot(2, 0, 0), 2);
        Check.due("the other rim with two of marsh and a canal", city.lot(2, 7, 0), 2);
        city.pass(60);
        Check.due("what stays", city.count(4), 6);
        CanalCity dry = Cities.full(2);
        dry.pass(60);
        Check.due("nothing sinks without marsh", dry.count(4), 56);
    }

    /** "as all is behind step 2, are marsh then, all at once" */
    private static void allSinkAtOnce() {
        CanalCity across = new CanalCity();
        Check.drainAll(across, 13, 14, 15);
        CanalCity down = new CanalCity();
        Check.drainAll(down, 29, 37, 45);
        across.pass(1);
        down.pass(1);
        Check.due("the inner end of a row", across.lot(5, 1, 0), 0);
        Check.due("its middle has two of marsh as yet", across.lot(6, 1, 0), 2);
        Check.due("its end at the rim has two of marsh", across.lot(7, 1, 0), 2);
        Check.due("the upper end of a column", down.lot(5, 3, 0), 0);
        Check.due("its middle", down.lot(5, 4, 0), 2);
        Check.due("its lower end", down.lot(5, 5, 0), 0);
        across.pass(1);
        down.pass(1);
        Check.due("the middle of the row then", across.lot(6, 1, 0), 0);
        Check.due("the end at the rim not yet", across.lot(7, 1, 0), 2);
        Check.due("the middle of the column then", down.lot(5, 4, 0), 0);
        across.pass(1);
        Check.due("the end at the rim then", across.lot(7, 1, 0), 0);
        CanalCity pair = new CanalCity();
        Check.drainAll(pair, 45, 46);
        pair.pass(1);
        Check.due("a pair, each the other's only land", pair.count(4), 0);
    }

    private static void leftLotsSinkInTheSameMonth() {
        CanalCity city = amidWorkshops(1, false, false);
        Check.due("foreseen marsh", city.foresee(1, 2), city.count(2) + 1);
        city.pass(1);
        Check.due("the lot that was left", city.lot(1, 1, 0), 0);
        Check.due("drained lots", city.count(4), 0);
    }

    /** "All dues come in, as all is ahead of this." */
    private static void duesComeInAheadOfLeaving() {
        CanalCity city = amidWorkshops(3, true, false);
        // At 1, 8 and 10 workshops around (1, 1); the market is at 17, and a second house at 16 joins it.
        city.drain(0, 2);
        city.build(0, 2, 3);
        int coins = city.count(1);
        // The workshop at 10 is by boat; the market counts both houses this month, one the next.
        int ahead = 2 + 2 + 5 + 0 + 2 + 1;
        Check.due("dues ahead", city.count(11), ahead);
        Check.due("pass(1)", city.pass(1), ahead);
        Check.due("coins", city.count(1), coins + ahead);
        Check.due("dues behind", city.count(11), ahead - 1);
        Check.due("pass(1) again", city.pass(1), ahead - 1);
    }

    /** "An object is used for at most 512 calls after it has been made" */
    private static void anObjectAnswers512Calls() {
        CanalCity city = new CanalCity();
        city.drain(2, 0);
        city.build(2, 0, 4);
        for (int call = 3; call <= 510; call++) {
            city.pass(60);
        }
        Check.due("months, call 511", city.count(0), 508 * 60);
        Check.due("coins, call 512", city.count(1), 52 + 508 * 60 * 5);
    }
}
