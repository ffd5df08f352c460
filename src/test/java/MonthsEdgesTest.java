import java.math.BigInteger;

/** The edges of promises 11 to 16, pass, foresee, would, best, mean and digest, sentence by sentence. */
public final class MonthsEdgesTest {
    private static final int[] NO_MONTHS = {0, -1, 61, 62, -60, 256 + 1, Integer.MIN_VALUE, Integer.MAX_VALUE};
    private static final int[] NO_BUILDING = {2, 6, 0, 1, -1, 7, -3, 256 + 3, Integer.MIN_VALUE, Integer.MAX_VALUE};
    private static final int[] NO_X = {-1, 8, -8, 64, Integer.MIN_VALUE, Integer.MAX_VALUE};

    public static void main(String[] args) {
        passTakes1To60Months();
        passRefusesTheRest();
        passTellsTheCoinsThatComeIn();
        passOfManyIsPassOfOneManyTimes();
        foreseeTakes1To60Months();
        foreseeRefusesMonths();
        foreseeRefusesWhat();
        foreseeTellsTheFirstException();
        foreseeIsWhatCountTellsThen();
        foreseeChangesNothing();
        wouldTakesLotsOfTheRim();
        wouldRefusesXAndY();
        wouldRefusesKinds();
        wouldRefusesWhatIsNotDrained();
        wouldTellsTheFirstException();
        wouldIsGreaterLessOrNothing();
        wouldOfTheLastDrainedLot();
        bestWithoutADrainedLot();
        bestOfOneDrainedLot();
        bestOfAllLots();
        bestOfSeveralIsTheLeast();
        bestWhereAllIsLess();
        bestRefusesKinds();
        wouldAndBestAskNoCoins();
        meanOfNone();
        meanOfSomeAndAll();
        digestOfANewObject();
        digestWrapsAround();
        digestTakesTheNumbersInTheirOrder();
        Check.end("MonthsEdgesTest");
    }

    /** A workshop at (2, 0), by boat: 5 coins a month, and 52 are left. */
    private static CanalCity earning() {
        CanalCity city = new CanalCity();
        city.drain(2, 0);
        city.build(2, 0, 4);
        return city;
    }

    /** pass: "IllegalArgumentException if months is not 1 to 60", on the allowed side. */
    private static void passTakes1To60Months() {
        for (int months : new int[] {1, 2, 59, 60}) {
            CanalCity city = earning();
            Check.due("pass(" + months + ")", city.pass(months), 5 * months);
            Check.due("month", city.count(0), months);
            Check.due("coins", city.count(1), 52 + 5 * months);
        }
    }

    private static void passRefusesTheRest() {
        CanalCity[] cities = {new CanalCity(), earning(), Cities.withCoins(0)};
        for (CanalCity city : cities) {
            for (int bad : NO_MONTHS) {
                Check.argument("pass(" + bad + ")", city, () -> city.pass(bad));
            }
            Check.due("month", city.count(0), 0);
        }
    }

    /** pass: "Returns how many coins come in." from none to those of a city full of workshops. */
    private static void passTellsTheCoinsThatComeIn() {
        CanalCity empty = new CanalCity();
        Check.due("pass(60) of a new city", empty.pass(60), 0);
        Check.due("coins", empty.count(1), 60);
        Check.due("marsh", empty.count(2), 56);
        CanalCity poor = Cities.withCoins(0);
        Check.due("pass(1) without coins", poor.pass(1), 0);
        Check.due("coins", poor.count(1), 0);
        CanalCity full = Cities.full(4);
        int coins = full.count(1);
        Check.due("pass(60) of workshops all over", full.pass(60), 60 * 160);
        Check.due("coins", full.count(1), coins + 60 * 160);
        CanalCity bridges = Cities.fullOfBridges();
        Check.due("pass(60) of bridges all over", bridges.pass(60), 0);
        Check.due("bridges", bridges.count(8), 64);
    }

    private static void passOfManyIsPassOfOneManyTimes() {
        CanalCity[] once = {new CanalCity(), earning(), changing(), Cities.full(3), Cities.chessboard(0)};
        CanalCity[] often = {new CanalCity(), earning(), changing(), Cities.full(3), Cities.chessboard(0)};
        for (int i = 0; i < once.length; i++) {
            int sum = 0;
            for (int month = 0; month < 60; month++) {
                sum += often[i].pass(1);
            }
            Check.due("pass(60) of city " + i, once[i].pass(60), sum);
            Check.due("digest of city " + i, once[i].digest(), often[i].digest());
        }
    }

    /** Houses at 45 are left in the first month and sink; a row of drained lots sinks month by month. */
    private static CanalCity changing() {
        CanalCity city = new CanalCity();
        Check.drainAll(city, 45, 53, 2, 12, 13, 14);
        city.build(5, 5, 3);
        city.build(5, 6, 4);
        city.build(2, 0, 3);
        return city;
    }

    /** foresee: months are "1 to 60", what is "1 to 12 as count() has it" */
    private static void foreseeTakes1To60Months() {
        CanalCity city = earning();
        Check.due("foresee(1, 1)", city.foresee(1, 1), 57);
        Check.due("foresee(2, 1)", city.foresee(2, 1), 62);
        Check.due("foresee(59, 1)", city.foresee(59, 1), 52 + 5 * 59);
        Check.due("foresee(60, 1)", city.foresee(60, 1), 52 + 5 * 60);
        Check.due("foresee(1, 12)", city.foresee(1, 12), 0);
        Check.due("foresee(60, 12)", city.foresee(60, 12), 0);
        Check.due("foresee(1, 2)", city.foresee(1, 2), 55);
        Check.due("foresee(60, 11)", city.foresee(60, 11), 5);
    }

    private static void foreseeRefusesMonths() {
        CanalCity city = earning();
        for (int bad : NO_MONTHS) {
            Check.argument("foresee(" + bad + ", 1)", city, () -> city.foresee(bad, 1));
            Check.argument("foresee(" + bad + ", 12)", city, () -> city.foresee(bad, 12));
        }
    }

    /** foresee: "IndexOutOfBoundsException if what is not 1 to 12": the month, 0, is not among them. */
    private static void foreseeRefusesWhat() {
        CanalCity city = earning();
        for (int bad : new int[] {0, 13, -1, 14, 256 + 1, Integer.MIN_VALUE, Integer.MAX_VALUE}) {
            Check.outside("foresee(1, " + bad + ")", city, () -> city.foresee(1, bad));
            Check.outside("foresee(60, " + bad + ")", city, () -> city.foresee(60, bad));
        }
    }

    /** "If several exceptions apply, the one that is named first is thrown.": that of the months. */
    private static void foreseeTellsTheFirstException() {
        CanalCity city = earning();
        for (int months : NO_MONTHS) {
            for (int what : new int[] {0, 13, -1, Integer.MIN_VALUE, Integer.MAX_VALUE}) {
                Check.argument("foresee(" + months + ", " + what + ")", city, () -> city.foresee(months, what));
            }
        }
    }

    /** foresee: "Returns this, behind so many months, if nothing is done" */
    private static void foreseeIsWhatCountTellsThen() {
        for (int months : new int[] {1, 2, 3, 60}) {
            CanalCity[] cities = {new CanalCity(), changing(), Cities.full(2), Cities.full(3),
                Cities.fullOfCanals(), Cities.chessboard(1)};
            for (int i = 0; i < cities.length; i++) {
                CanalCity city = cities[i];
                int[] foreseen = new int[13];
                for (int what = 1; what <= 12; what++) {
                    foreseen[what] = city.foresee(months, what);
                }
                city.pass(months);
                for (int what = 1; what <= 12; what++) {
                    String call = "foresee(" + months + ", " + what + ") of city " + i;
                    Check.due(call, foreseen[what], city.count(what));
                }
            }
        }
        CanalCity city = changing();
        Check.due("left, foreseen", city.foresee(1, 12), 1);
        Check.due("marsh, one month", city.foresee(1, 2), city.count(2) + 2);
        Check.due("marsh, two months", city.foresee(2, 2), city.count(2) + 3);
        Check.due("marsh, three months", city.foresee(3, 2), city.count(2) + 4);
    }

    /** foresee: "(nothing is changed)" */
    private static void foreseeChangesNothing() {
        CanalCity city = changing();
        long before = city.digest();
        for (int what = 1; what <= 12; what++) {
            city.foresee(1, what);
            city.foresee(60, what);
        }
        Check.due("digest behind foresee", city.digest(), before);
        Check.due("month behind foresee", city.count(0), 0);
        Check.due("walk behind foresee", city.walk(12, 14), 2);
        Check.due("sail behind foresee", city.sail(59), 7);
        Check.due("pass behind foresee", city.pass(1), changing().pass(1));
    }

    /** would: x and y "0 to 7", kinds "3 houses, 4 a workshop, 5 a market" */
    private static void wouldTakesLotsOfTheRim() {
        for (int x : new int[] {0, 7}) {
            for (int y : new int[] {0, 7}) {
                CanalCity city = new CanalCity();
                city.drain(x, y);
                Check.due("would(" + x + ", " + y + ", 3)", city.would(x, y, 3), 1);
                Check.due("would(" + x + ", " + y + ", 4)", city.would(x, y, 4), 2);
                Check.due("would(" + x + ", " + y + ", 5)", city.would(x, y, 5), 0);
                Check.due("kind behind would", city.lot(x, y, 0), 2);
                Check.due("coins behind would", city.count(1), 58);
            }
        }
    }

    /** would: "IndexOutOfBoundsException if x or y is not 0 to 7" */
    private static void wouldRefusesXAndY() {
        CanalCity city = Cities.full(2);
        for (int bad : NO_X) {
            for (int kind = 3; kind <= 5; kind++) {
                int asked = kind;
                Check.outside("would(" + bad + ", 0, " + kind + ")", city, () -> city.would(bad, 0, asked));
                Check.outside("would(0, " + bad + ", " + kind + ")", city, () -> city.would(0, bad, asked));
            }
        }
        Check.outside("would(8, -1, 3), as if it was 0", city, () -> city.would(8, -1, 3));
        Check.outside("would(-1, 8, 3), as if it was 63", city, () -> city.would(-1, 8, 3));
    }

    /** would: "IllegalArgumentException if kind is not 3 to 5" */
    private static void wouldRefusesKinds() {
        CanalCity city = new CanalCity();
        city.drain(0, 0);
        for (int bad : NO_BUILDING) {
            Check.argument("would(0, 0, " + bad + ")", city, () -> city.would(0, 0, bad));
        }
    }

    /** would: "IllegalStateException if the lot is not drained" */
    private static void wouldRefusesWhatIsNotDrained() {
        for (int kind = 0; kind <= 6; kind++) {
            CanalCity city = Cities.withOne(kind);
            for (int built = 3; built <= 5; built++) {
                int asked = built;
                if (kind == 2) {
                    Check.due("would of " + built, city.would(1, 1, built), built == 3 ? 1 : built == 4 ? 2 : 0);
                } else {
                    Check.state("would of " + built + " on kind " + kind, city, () -> city.would(1, 1, asked));
                }
            }
        }
    }

    /** "If several exceptions apply, the one that is named first is thrown." */
    private static void wouldTellsTheFirstException() {
        CanalCity city = new CanalCity();
        for (int bad : NO_BUILDING) {
            Check.argument("would on marsh of " + bad, city, () -> city.would(0, 0, bad));
            Check.argument("would on a canal of " + bad, city, () -> city.would(3, 7, bad));
            Check.outside("would(8, 0, " + bad + ")", city, () -> city.would(8, 0, bad));
            Check.outside("would(0, -1, " + bad + ")", city, () -> city.would(0, -1, bad));
        }
    }

    /** would: "by how much the dues of all would be greater (less than 0, if less)" */
    private static void wouldIsGreaterLessOrNothing() {
        CanalCity city = Cities.rich();
        Check.drainAll(city, 45, 37, 44, 46, 53);
        for (int place : new int[] {37, 44, 46, 53}) {
            city.build(place % 8, place / 8, 3);
        }
        // Houses at 44 are by boat, and pay 2; the other three pay 1 each.
        Check.due("dues", city.count(11), 5);
        Check.due("a workshop amid houses: 2 less 4", city.would(5, 5, 4), -2);
        Check.due("a market amid houses: 2 more of each, and 2", city.would(5, 5, 5), 10);
        Check.due("houses amid houses", city.would(5, 5, 3), 1);
        city.drain(0, 0);
        Check.due("a market for nobody", city.would(0, 0, 5), 0);
        CanalCity even = new CanalCity();
        Check.drainAll(even, 45, 44, 46);
        even.build(4, 5, 3);
        even.build(6, 5, 3);
        Check.due("dues", even.count(11), 3);
        Check.due("a workshop that brings what it takes", even.would(5, 5, 4), 0);
        // Three workshops beside the houses at 45 leave them 0 to pay, so that a fourth takes nothing more.
        CanalCity spent = Cities.rich();
        Check.drainAll(spent, 45, 37, 44, 46, 53);
        spent.build(5, 5, 3);
        for (int place : new int[] {37, 44, 46}) {
            spent.build(place % 8, place / 8, 4);
        }
        Check.due("a workshop where nothing is left to take", spent.would(5, 6, 4), 2);
    }

    private static void wouldOfTheLastDrainedLot() {
        CanalCity city = Cities.full(3);
        city.raze(7, 7);
        // The right bank has 31 houses: 2 more of each, and 15 for the market; the lot's neighbours 55 and 62.
        Check.due("a market for 31 houses", city.would(7, 7, 5), 31 * 2 + 15);
        Check.due("houses", city.would(7, 7, 3), 1);
        Check.due("a workshop", city.would(7, 7, 4), 2 - 2);
        city.bridge(3, 0);
        Check.due("a market for 55 houses", city.would(7, 7, 5), 55 * 2 + 27);
    }

    /** best: "-1 if none is drained" */
    private static void bestWithoutADrainedLot() {
        CanalCity[] cities = {new CanalCity(), Cities.full(3), Cities.full(4), Cities.full(5),
            Cities.fullOfCanals(), Cities.fullOfBridges()};
        for (int i = 0; i < cities.length; i++) {
            for (int kind = 3; kind <= 5; kind++) {
                Check.due("best(" + kind + ") of city " + i, cities[i].best(kind), -1);
            }
        }
    }

    private static void bestOfOneDrainedLot() {
        for (int place : new int[] {0, 7, 2, 36, 56, 63}) {
            CanalCity city = new CanalCity();
            city.drain(place % 8, place / 8);
            for (int kind = 3; kind <= 5; kind++) {
                Check.due("best(" + kind + ") of " + place, city.best(kind), place);
            }
        }
    }

    private static void bestOfAllLots() {
        CanalCity city = Cities.full(2);
        long before = city.digest();
        Check.due("houses by boat", city.best(3), 2);
        Check.due("a workshop by boat", city.best(4), 2);
        Check.due("a market for nobody", city.best(5), 0);
        Check.due("digest behind best", city.digest(), before);
        city.build(7, 7, 3);
        Check.due("a market on the houses' side", city.best(5), 4);
        city.build(0, 7, 3);
        Check.due("a market for either", city.best(5), 0);
        CanalCity last = Cities.full(3);
        last.raze(7, 7);
        for (int kind = 3; kind <= 5; kind++) {
            Check.due("best(" + kind + ") of the last one", last.best(kind), 63);
        }
    }

    /** best: "the greatest, of several the least" */
    private static void bestOfSeveralIsTheLeast() {
        CanalCity city = new CanalCity();
        Check.drainAll(city, 63, 60, 58, 42, 0);
        Check.due("houses, of 42, 58 and 60", city.best(3), 42);
        Check.due("a workshop, of 42, 58 and 60", city.best(4), 42);
        Check.due("a market, of all", city.best(5), 0);
        city.build(2, 5, 3);
        Check.due("houses, of 58 and 60", city.best(3), 58);
        city.dig(2, 7);
        Check.due("houses at 60", city.best(3), 60);
        city.dig(4, 7);
        Check.due("houses, of 0 and 63", city.best(3), 0);
        city.dig(7, 6);
        Check.due("closed water makes no difference", city.best(3), 0);
    }

    private static void bestWhereAllIsLess() {
        CanalCity city = Cities.rich();
        // Houses all around 45 and 54: a workshop takes 4 - 2 at 45, and as much at 54.
        Check.drainAll(city, 45, 37, 44, 46, 53, 54, 55, 62);
        for (int place : new int[] {37, 44, 46, 53, 55, 62}) {
            city.build(place % 8, place / 8, 3);
        }
        Check.due("would(5, 5, 4)", city.would(5, 5, 4), -2);
        Check.due("would(6, 6, 4)", city.would(6, 6, 4), -2);
        Check.due("best(4) of two that are less", city.best(4), 45);
        city.raze(6, 7);
        city.build(6, 7, 4);
        // Houses at 46, 53 and 55 are left for a workshop at 54 to take from.
        Check.due("would(6, 6, 4) then", city.would(6, 6, 4), 2 - 3);
        Check.due("best(4) of -2 and -1", city.best(4), 54);
    }

    /** best: "IllegalArgumentException if kind is not 3 to 5" */
    private static void bestRefusesKinds() {
        CanalCity[] cities = {new CanalCity(), Cities.full(2), Cities.fullOfBridges()};
        for (CanalCity city : cities) {
            for (int bad : NO_BUILDING) {
                Check.argument("best(" + bad + ")", city, () -> city.best(bad));
            }
        }
    }

    /** would, best: "(whatever it costs; nothing is changed)" */
    private static void wouldAndBestAskNoCoins() {
        for (int coins = 0; coins <= 6; coins++) {
            CanalCity city = Cities.withCoins(coins);
            long before = city.digest();
            Check.due("would of houses with " + coins, city.would(2, 0, 3), 2);
            Check.due("would of a workshop with " + coins, city.would(2, 0, 4), 5);
            Check.due("would of a market with " + coins, city.would(2, 0, 5), 0);
            for (int kind = 3; kind <= 5; kind++) {
                Check.due("best(" + kind + ") with " + coins, city.best(kind), 2);
            }
            Check.due("digest behind them", city.digest(), before);
            Check.due("coins behind them", city.count(1), coins);
        }
    }

    /** mean: "0 if there are none" */
    private static void meanOfNone() {
        CanalCity[] cities = {new CanalCity(), Cities.full(2), Cities.full(4), Cities.full(5),
            Cities.fullOfCanals(), Cities.fullOfBridges()};
        for (int i = 0; i < cities.length; i++) {
            Check.due("mean of city " + i, cities[i].mean(), 0.0);
        }
        CanalCity gone = new CanalCity();
        gone.drain(0, 0);
        gone.build(0, 0, 3);
        Check.due("mean of one", gone.mean(), 3.0);
        gone.raze(0, 0);
        Check.due("mean when the last houses are razed", gone.mean(), 0.0);
    }

    /** mean: "the mean of the complaints of all lots of houses", which is cut nowhere. */
    private static void meanOfSomeAndAll() {
        CanalCity full = Cities.full(3);
        Check.due("mean of 56", full.mean(), 152.0 / 56);
        CanalCity content = new CanalCity();
        Check.drainAll(content, 2, 10);
        content.build(2, 0, 3);
        content.build(2, 1, 5);
        Check.due("mean of houses without complaints", content.mean(), 0.0);
        CanalCity some = new CanalCity();
        Check.drainAll(some, 2, 0, 7);
        some.build(2, 0, 3);
        Check.due("mean of 2", some.mean(), 2.0);
        some.build(0, 0, 3);
        Check.due("mean of 2 and 3", some.mean(), 2.5);
        some.build(7, 0, 3);
        Check.due("mean of 2, 3 and 3", some.mean(), 8.0 / 3);
        some.pass(1);
        Check.due("mean a month later", some.mean(), 8.0 / 3);
    }

    /** digest: "starts with 1409"; these were reckoned apart from the class, with numbers of any length. */
    private static void digestOfANewObject() {
        CanalCity city = new CanalCity();
        Check.due("digest of a new city", city.digest(), -8650792225289407405L);
        city.pass(1);
        Check.due("digest in the month 1", city.digest(), -6682777814565795116L);
        city.pass(59);
        Check.due("digest in the month 60", city.digest(), -1250392024129979761L);
        city.pass(1);
        Check.due("digest in the month 61", city.digest(), 717622386593632528L);
        CanalCity corners = new CanalCity();
        Check.drainAll(corners, 0, 63);
        Check.due("digest with two corners drained", corners.digest(), 4274709455507927440L);
        Check.due("digest of bridges all over", Cities.fullOfBridges().digest(), 6387305742582887439L);
    }

    /** digest: "d becomes d * 31 + x, which wraps around as a 64-bit integer" */
    private static void digestWrapsAround() {
        CanalCity[] cities = {new CanalCity(), changing(), Cities.chessboard(0), Cities.fullOfCanals()};
        for (int i = 0; i < cities.length; i++) {
            BigInteger d = BigInteger.valueOf(1409);
            for (int number : numbersOf(cities[i])) {
                d = d.multiply(BigInteger.valueOf(31)).add(BigInteger.valueOf(number));
            }
            BigInteger round = BigInteger.ONE.shiftLeft(64);
            BigInteger wrapped = d.mod(round);
            if (wrapped.testBit(63)) {
                wrapped = wrapped.subtract(round);
            }
            Check.due("d is longer than 64 bits in city " + i, d.bitLength() > 64 ? 1 : 0, 1);
            Check.due("digest of city " + i, cities[i].digest(), wrapped.longValueExact());
        }
    }

    /** "what count() tells, in its order; for each lot, by its number, what lot() tells, in its order" */
    private static int[] numbersOf(CanalCity city) {
        int[] all = new int[13 + 64 * 6];
        int end = 0;
        for (int what = 0; what <= 12; what++) {
            all[end++] = city.count(what);
        }
        for (int y = 0; y < 8; y++) {
            for (int x = 0; x < 8; x++) {
                for (int what = 0; what <= 5; what++) {
                    all[end++] = city.lot(x, y, what);
                }
            }
        }
        return all;
    }

    private static void digestTakesTheNumbersInTheirOrder() {
        long[] digests = new long[64];
        for (int place = 0; place < 64; place++) {
            CanalCity city = new CanalCity();
            if (place % 8 != 3) {
                city.drain(place % 8, place / 8);
            } else {
                city.bridge(3, place / 8);
            }
            digests[place] = city.digest();
            for (int other = 0; other < place; other++) {
                Check.due("digests of " + other + " and " + place, digests[other] == digests[place] ? 1 : 0, 0);
            }
            Check.due("digest asked again", city.digest(), digests[place]);
        }
    }
}
