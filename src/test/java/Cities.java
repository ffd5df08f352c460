/** Cities for the tests of edges: rich and poor ones, and such as are full of one kind. */
final class Cities {
    /** The coins of rich(): six workshops by boat, 5 each, for 60 months; 12 were left by building them. */
    static final int RICH = 12 + 60 * 30;
    static final int MONTH_OF_RICH = 61;

    private Cities() {
    }

    /** All lots as in a new city, RICH coins, in the month 61: workshops earn, are razed, and sink. */
    static CanalCity rich() {
        CanalCity city = new CanalCity();
        int[] apart = {10, 26, 42, 20, 36, 52};
        Check.drainAll(city, apart);
        for (int place : apart) {
            city.build(place % 8, place / 8, 4);
        }
        city.pass(60);
        for (int place : apart) {
            city.raze(place % 8, place / 8);
        }
        city.pass(1);
        Check.due("coins of a rich city", city.count(1), RICH);
        Check.due("marsh of a rich city", city.count(2), 56);
        return city;
    }

    /** All 56 lots beside the first canals are of this kind, 2 to 5. */
    static CanalCity full(int kind) {
        CanalCity city = rich();
        for (int place = 0; place < 64; place++) {
            if (place % 8 != 3) {
                city.drain(place % 8, place / 8);
                if (kind != 2) {
                    city.build(place % 8, place / 8, kind);
                }
            }
        }
        return city;
    }

    static CanalCity fullOfCanals() {
        CanalCity city = rich();
        for (int place = 0; place < 64; place++) {
            if (place % 8 != 3) {
                city.dig(place % 8, place / 8);
            }
        }
        return city;
    }

    static CanalCity fullOfBridges() {
        CanalCity city = fullOfCanals();
        for (int place = 0; place < 64; place++) {
            city.bridge(place % 8, place / 8);
        }
        return city;
    }

    /** The lot (1, 1) is of this kind, 0 to 6, and all else as in a new city. */
    static CanalCity withOne(int kind) {
        CanalCity city = new CanalCity();
        if (kind == 1 || kind == 6) {
            city.dig(1, 1);
        } else if (kind != 0) {
            city.drain(1, 1);
        }
        if (kind == 6) {
            city.bridge(1, 1);
        } else if (kind >= 3) {
            city.build(1, 1, kind);
        }
        Check.due("kind of the lot (1, 1)", city.lot(1, 1, 0), kind);
        return city;
    }

    /** The lots (2, 0) and (5, 0) are drained, the lots (0, 0) to (1, 1) are marsh, and so many coins are left. */
    static CanalCity withCoins(int coins) {
        CanalCity city = new CanalCity();
        Check.drainAll(city, 2, 5);
        Check.spendTo(city, coins);
        return city;
    }

    /** Land wherever x + y is even (or else odd): no lot of it has a neighbour of land. */
    static CanalCity chessboard(int odd) {
        CanalCity city = rich();
        for (int place = 0; place < 64; place++) {
            int x = place % 8;
            int y = place / 8;
            if ((x + y) % 2 == odd) {
                if (x == 3) {
                    city.bridge(x, y);
                } else {
                    city.drain(x, y);
                }
            }
        }
        return city;
    }
}
