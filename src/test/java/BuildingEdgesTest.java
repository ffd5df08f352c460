/** The edges of promises 1 to 6, a new object, drain, dig, build, bridge and raze, sentence by sentence. */
public final class BuildingEdgesTest {
    private static final int[] INSIDE = {0, 1, 6, 7};
    private static final int[] OUTSIDE = {-1, 8, -8, 63, 64, Integer.MIN_VALUE, Integer.MAX_VALUE};

    interface Purchase {
        int buy(CanalCity city);
    }

    public static void main(String[] args) {
        newObjectIsAMarshWithOneCanal();
        xAndYAre0To7();
        xOrYOutsideIsTheFirstException();
        justEnoughCoinsAndOneTooFew();
        coinsNeverGoBelow0();
        onlyMarshIsDrained();
        onlyMarshAndDrainedLotsAreDug();
        onlyDrainedLotsAreBuiltOn();
        kindsAre3To5();
        kindIsToldAheadOfTheLotAndTheCoins();
        onlyCanalsGetABridge();
        bridgeTellsTheLotsOfItsQuarter();
        onlyKinds3To6AreRazed();
        razingCostsNothingAndGivesNothing();
        everythingFull();
        refusedCallsLeaveNoTrace();
        Check.end("BuildingEdgesTest");
    }

    /** "Creates a marsh with one canal, in the month 0." and "There are 60, at first." */
    private static void newObjectIsAMarshWithOneCanal() {
        CanalCity city = new CanalCity();
        Check.due("month", city.count(0), 0);
        Check.due("coins", city.count(1), 60);
        Check.due("marsh", city.count(2), 56);
        Check.due("canals", city.count(3), 8);
        for (int what = 4; what <= 12; what++) {
            Check.due("count(" + what + ")", city.count(what), 0);
        }
        Check.due("foreseen: it stays so", city.foresee(60, 2), 56);
    }

    /** "IndexOutOfBoundsException if x or y is not 0 to 7", on the allowed side. */
    private static void xAndYAre0To7() {
        for (int x : INSIDE) {
            for (int y : INSIDE) {
                CanalCity city = new CanalCity();
                String at = "(" + x + ", " + y + ")";
                Check.due("drain" + at, city.drain(x, y), 58);
                Check.due("build" + at, city.build(x, y, 3), 54);
                Check.due("raze" + at, city.raze(x, y), 3);
                Check.due("dig" + at, city.dig(x, y), 51);
                Check.due("bridge" + at, city.bridge(x, y), 1);
                Check.due("raze of the bridge" + at, city.raze(x, y), 6);
                Check.due("coins behind " + at, city.count(1), 44);
                Check.due("kind of " + at, city.lot(x, y, 0), 1);
                Check.due("canals with " + at, city.count(3), 9);
                Check.due("marsh beside " + at, city.count(2), 55);
            }
        }
    }

    /** The same sentence on the refused side, where it is named ahead of all others. */
    private static void xOrYOutsideIsTheFirstException() {
        CanalCity[] cities = {new CanalCity(), Cities.withCoins(0), Cities.fullOfBridges()};
        for (CanalCity city : cities) {
            for (int bad : OUTSIDE) {
                Check.outside("drain(" + bad + ", 0)", city, () -> city.drain(bad, 0));
                Check.outside("drain(7, " + bad + ")", city, () -> city.drain(7, bad));
                Check.outside("dig(" + bad + ", 7)", city, () -> city.dig(bad, 7));
                Check.outside("dig(0, " + bad + ")", city, () -> city.dig(0, bad));
                Check.outside("build(" + bad + ", 0, 3)", city, () -> city.build(bad, 0, 3));
                Check.outside("build(2, " + bad + ", 5)", city, () -> city.build(2, bad, 5));
                Check.outside("build(" + bad + ", 0, 2)", city, () -> city.build(bad, 0, 2));
                Check.outside("build(2, " + bad + ", 6)", city, () -> city.build(2, bad, 6));
                Check.outside("bridge(" + bad + ", 0)", city, () -> city.bridge(bad, 0));
                Check.outside("bridge(3, " + bad + ")", city, () -> city.bridge(3, bad));
                Check.outside("raze(" + bad + ", 0)", city, () -> city.raze(bad, 0));
                Check.outside("raze(0, " + bad + ")", city, () -> city.raze(0, bad));
            }
        }
        CanalCity both = new CanalCity();
        Check.outside("drain(-1, 8)", both, () -> both.drain(-1, 8));
        Check.outside("dig(8, -1)", both, () -> both.dig(8, -1));
        // Such an x and y would make the number of a lot that there is.
        Check.outside("drain(8, 0), as if it was 8", both, () -> both.drain(8, 0));
        Check.outside("drain(-1, 1), as if it was 7", both, () -> both.drain(-1, 1));
        Check.outside("drain(-8, 1), as if it was 0", both, () -> both.drain(-8, 1));
        Check.outside("dig(16, -2), as if it was 0", both, () -> both.dig(16, -2));
        Check.outside("dig(0, 1 << 29), as if it was 0", both, () -> both.dig(0, 1 << 29));
        Check.outside("bridge(11, -1), as if it was 3", both, () -> both.bridge(11, -1));
    }

    /** "Draining a lot costs 2, digging one out 3, houses 4, a workshop 6, a market 5, a bridge 7." */
    private static void justEnoughCoinsAndOneTooFew() {
        expectCost("drain of marsh", 2, city -> city.drain(0, 0));
        expectCost("dig of marsh", 3, city -> city.dig(0, 0));
        expectCost("dig of a drained lot", 3, city -> city.dig(2, 0));
        expectCost("houses", 4, city -> city.build(2, 0, 3));
        expectCost("a workshop", 6, city -> city.build(2, 0, 4));
        expectCost("a market", 5, city -> city.build(2, 0, 5));
        expectCost("a bridge", 7, city -> {
            // The lot (2, 0) beside it is of its quarter.
            Check.due("lots of its quarter", city.bridge(3, 0), 2);
            return city.count(1);
        });
    }

    private static void expectCost(String what, int cost, Purchase purchase) {
        for (int coins = 0; coins <= cost + 1; coins++) {
            CanalCity city = Cities.withCoins(coins);
            if (coins < cost) {
                Check.state(what + " with " + coins, city, () -> purchase.buy(city));
                Check.due("coins behind it", city.count(1), coins);
            } else {
                Check.due(what + " with " + coins, purchase.buy(city), coins - cost);
                Check.due("coins behind it", city.count(1), coins - cost);
            }
        }
        CanalCity rich = Cities.rich();
        rich.drain(2, 0);
        Check.due(what + " with many", purchase.buy(rich), Cities.RICH - 2 - cost);
    }

    /** "Returns the coins then." down to the last ones: 0 after thirty lots, and the next one is refused. */
    private static void coinsNeverGoBelow0() {
        CanalCity city = new CanalCity();
        int coins = 60;
        for (int place = 0; coins > 0; place++) {
            if (place % 8 != 3) {
                coins -= 2;
                Check.due("drain of " + place, city.drain(place % 8, place / 8), coins);
            }
        }
        Check.due("drained lots", city.count(4), 30);
        Check.state("drain without coins", city, () -> city.drain(7, 7));
        Check.state("dig without coins", city, () -> city.dig(0, 0));
        Check.state("dig of marsh without coins", city, () -> city.dig(7, 7));
        Check.state("bridge without coins", city, () -> city.bridge(3, 0));
        for (int kind = 3; kind <= 5; kind++) {
            int built = kind;
            Check.state("build of " + kind + " without coins", city, () -> city.build(0, 0, built));
        }
    }

    /** drain: "IllegalStateException if it is no marsh" */
    private static void onlyMarshIsDrained() {
        for (int kind = 0; kind <= 6; kind++) {
            CanalCity city = Cities.withOne(kind);
            int coins = city.count(1);
            if (kind == 0) {
                Check.due("drain of marsh", city.drain(1, 1), coins - 2);
                Check.due("kind then", city.lot(1, 1, 0), 2);
            } else {
                Check.state("drain of kind " + kind, city, () -> city.drain(1, 1));
            }
        }
        CanalCity twice = new CanalCity();
        twice.drain(7, 7);
        Check.state("drain of a lot again", twice, () -> twice.drain(7, 7));
        twice.pass(60);
        Check.state("and in later months, as a corner stays", twice, () -> twice.drain(7, 7));
        twice.drain(5, 5);
        twice.pass(1);
        Check.due("drain of a lot that has sunk", twice.drain(5, 5), 60 - 2 - 2 - 2);
    }

    /** dig: "a lot of marsh, or a drained one", "IllegalStateException if it is neither of both" */
    private static void onlyMarshAndDrainedLotsAreDug() {
        for (int kind = 0; kind <= 6; kind++) {
            CanalCity city = Cities.withOne(kind);
            int coins = city.count(1);
            if (kind == 0 || kind == 2) {
                Check.due("dig of kind " + kind, city.dig(1, 1), coins - 3);
                Check.due("kind then", city.lot(1, 1, 0), 1);
                Check.state("dig of it again", city, () -> city.dig(1, 1));
            } else {
                Check.state("dig of kind " + kind, city, () -> city.dig(1, 1));
            }
        }
        CanalCity first = new CanalCity();
        Check.state("dig of the sea gate", first, () -> first.dig(3, 0));
        Check.state("dig of the far end", first, () -> first.dig(3, 7));
    }

    /** build: "IllegalStateException if it is not drained" */
    private static void onlyDrainedLotsAreBuiltOn() {
        int[] costs = {4, 6, 5};
        for (int kind = 0; kind <= 6; kind++) {
            for (int built = 3; built <= 5; built++) {
                CanalCity city = Cities.withOne(kind);
                int coins = city.count(1);
                int which = built;
                String what = "build of " + built + " on kind " + kind;
                if (kind == 2) {
                    Check.due(what, city.build(1, 1, built), coins - costs[built - 3]);
                    Check.due("kind then", city.lot(1, 1, 0), built);
                    Check.state("once more", city, () -> city.build(1, 1, which));
                } else {
                    Check.state(what, city, () -> city.build(1, 1, which));
                }
            }
        }
    }

    /** build: "IllegalArgumentException if kind is not 3 to 5" */
    private static void kindsAre3To5() {
        CanalCity city = new CanalCity();
        Check.drainAll(city, 2, 10, 18);
        Check.argument("kind 2, the one below", city, () -> city.build(2, 0, 2));
        Check.argument("kind 6, the one beyond", city, () -> city.build(2, 0, 6));
        for (int bad : new int[] {-1, 0, 1, 7, -3, -5, 256 + 3, Integer.MIN_VALUE, Integer.MAX_VALUE}) {
            Check.argument("kind " + bad, city, () -> city.build(2, 0, bad));
        }
        Check.due("kind 3, the least", city.build(2, 0, 3), 50);
        Check.due("kind 4", city.build(2, 1, 4), 44);
        Check.due("kind 5, the greatest", city.build(2, 2, 5), 39);
        Check.due("houses", city.lot(2, 0, 0), 3);
        Check.due("a workshop", city.lot(2, 1, 0), 4);
        Check.due("a market", city.lot(2, 2, 0), 5);
    }

    /** "If several exceptions apply, the one that is named first is thrown." */
    private static void kindIsToldAheadOfTheLotAndTheCoins() {
        int[] bads = {2, 6, Integer.MIN_VALUE, Integer.MAX_VALUE};
        for (int bad : bads) {
            for (int kind = 0; kind <= 6; kind++) {
                CanalCity city = Cities.withOne(kind);
                Check.argument("build of " + bad + " on kind " + kind, city, () -> city.build(1, 1, bad));
                Check.outside("build of " + bad + " outside", city, () -> city.build(1, 8, bad));
                Check.outside("build of " + bad + " outside", city, () -> city.build(-1, 1, bad));
            }
            CanalCity poor = Cities.withCoins(0);
            Check.argument("build of " + bad + " without coins", poor, () -> poor.build(2, 0, bad));
            Check.argument("build of " + bad + " on marsh, no coins", poor, () -> poor.build(0, 0, bad));
            Check.outside("build of " + bad + " outside, no coins", poor, () -> poor.build(8, 0, bad));
        }
        CanalCity poor = Cities.withCoins(0);
        Check.state("build on marsh without coins", poor, () -> poor.build(0, 0, 3));
        Check.state("drain of a canal without coins", poor, () -> poor.drain(3, 0));
        Check.state("dig of a canal without coins", poor, () -> poor.dig(3, 0));
        Check.state("bridge over marsh without coins", poor, () -> poor.bridge(0, 0));
    }

    /** bridge: "IllegalStateException if it is no canal, or has a bridge" */
    private static void onlyCanalsGetABridge() {
        for (int kind = 0; kind <= 6; kind++) {
            CanalCity city = Cities.withOne(kind);
            if (kind == 1) {
                Check.due("bridge over a canal", city.bridge(1, 1), 1);
                Check.due("kind then", city.lot(1, 1, 0), 6);
                Check.due("coins then", city.count(1), 60 - 3 - 7);
                Check.state("a second bridge", city, () -> city.bridge(1, 1));
                city.raze(1, 1);
                Check.due("a bridge anew", city.bridge(1, 1), 1);
            } else {
                Check.state("bridge over kind " + kind, city, () -> city.bridge(1, 1));
            }
        }
    }

    /** bridge: "Returns how many lots its quarter has then." from 1 to 64. */
    private static void bridgeTellsTheLotsOfItsQuarter() {
        CanalCity city = Cities.fullOfCanals();
        for (int place = 0; place < 64; place++) {
            Check.due("bridge over " + place, city.bridge(place % 8, place / 8), place + 1);
        }
        CanalCity apart = new CanalCity();
        Check.due("at the sea gate", apart.bridge(3, 0), 1);
        Check.due("beside a bridge", apart.bridge(3, 1), 2);
        Check.due("apart from both", apart.bridge(3, 3), 1);
        Check.due("between them", apart.bridge(3, 2), 4);
        CanalCity corners = Cities.rich();
        Check.drainAll(corners, 2, 4, 18, 20);
        Check.due("corner to corner with four lots", corners.bridge(3, 1), 1);
        Check.due("between two of them", corners.bridge(3, 0), 4);
        CanalCity kinds = Cities.rich();
        Check.drainAll(kinds, 10, 12, 2, 9, 4);
        kinds.build(2, 1, 3);
        kinds.build(4, 1, 4);
        kinds.build(2, 0, 5);
        Check.due("with all kinds of land", kinds.bridge(3, 1), 6);
    }

    /** raze: "IllegalStateException if it is not of the kinds 3 to 6", "Returns the kind before." */
    private static void onlyKinds3To6AreRazed() {
        for (int kind = 0; kind <= 6; kind++) {
            CanalCity city = Cities.withOne(kind);
            int coins = city.count(1);
            if (kind < 3) {
                Check.state("raze of kind " + kind, city, () -> city.raze(1, 1));
                continue;
            }
            Check.due("raze of kind " + kind, city.raze(1, 1), kind);
            Check.due("kind then", city.lot(1, 1, 0), kind == 6 ? 1 : 2);
            Check.due("coins then", city.count(1), coins);
            Check.state("raze of it again", city, () -> city.raze(1, 1));
        }
    }

    /** Razing has no cost in the document: it goes without coins, and with many. */
    private static void razingCostsNothingAndGivesNothing() {
        CanalCity city = new CanalCity();
        city.drain(2, 0);
        city.build(2, 0, 3);
        city.bridge(3, 0);
        Check.spendTo(city, 0);
        Check.due("raze of houses without coins", city.raze(2, 0), 3);
        Check.due("raze of a bridge without coins", city.raze(3, 0), 6);
        Check.due("coins", city.count(1), 0);
        Check.due("razed houses were not left", city.count(12), 0);
        Check.due("the sea gate stays open", city.lot(3, 7, 3), 1);
    }

    /** No lot is left for a call, and all lots are of one kind. */
    private static void everythingFull() {
        for (int kind = 2; kind <= 5; kind++) {
            CanalCity city = Cities.full(kind);
            Check.due("lots of kind " + kind, city.count(kind + 2), 56);
            Check.due("marsh", city.count(2), 0);
            Check.state("drain where no marsh is", city, () -> city.drain(0, 0));
            if (kind > 2) {
                Check.state("dig where all is built on", city, () -> city.dig(7, 7));
                Check.state("build where all is built on", city, () -> city.build(0, 0, 3));
            }
        }
        CanalCity water = Cities.fullOfCanals();
        Check.due("canals", water.count(3), 64);
        Check.due("coins", water.count(1), Cities.RICH - 56 * 3);
        Check.state("drain of the last one", water, () -> water.drain(7, 7));
        Check.state("dig of the first one", water, () -> water.dig(0, 0));
        Check.state("build on the first one", water, () -> water.build(0, 0, 3));
        Check.state("raze of the first one", water, () -> water.raze(0, 0));
        CanalCity bridges = Cities.fullOfBridges();
        Check.due("bridges", bridges.count(8), 64);
        Check.due("canals under them", bridges.count(3), 0);
        Check.state("bridge over a bridge", bridges, () -> bridges.bridge(7, 7));
        Check.due("raze of the last one", bridges.raze(7, 7), 6);
        Check.due("canals then", bridges.count(3), 1);
        Check.due("lots of the quarter then", bridges.lot(0, 0, 2), 63);
    }

    /** "A method that throws an exception changes nothing.": not for what comes later either. */
    private static void refusedCallsLeaveNoTrace() {
        CanalCity city = Cities.withCoins(3);
        CanalCity twin = Cities.withCoins(3);
        Check.outside("drain", city, () -> city.drain(8, 8));
        Check.state("drain", city, () -> city.drain(2, 0));
        Check.state("dig", city, () -> city.dig(3, 0));
        Check.argument("build", city, () -> city.build(2, 0, 6));
        Check.state("build", city, () -> city.build(2, 0, 3));
        Check.state("bridge", city, () -> city.bridge(3, 0));
        Check.state("raze", city, () -> city.raze(0, 0));
        Check.due("dig, which is paid", city.dig(0, 0), 0);
        Check.due("dig of the twin", twin.dig(0, 0), 0);
        for (int months = 1; months <= 4; months++) {
            Check.due("digests in the month " + months, city.digest(), twin.digest());
            Check.due("foresee", city.foresee(months, 2), twin.foresee(months, 2));
            Check.due("pass", city.pass(1), twin.pass(1));
        }
    }
}
