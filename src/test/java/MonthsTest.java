/** Promises 11 to 16: pass, foresee, would, best, mean, digest. */
public final class MonthsTest {
    private static final int[] NO_MONTHS = {0, -1, 61, 62, Integer.MIN_VALUE, Integer.MAX_VALUE};
    private static final int[] NO_BUILDING = {2, 6, 0, 1, -1, 7, Integer.MIN_VALUE, Integer.MAX_VALUE};

    public static void main(String[] args) {
        passBringsDues();
        housesAreLeft();
        housesThatStay();
        leftLotsSinkInTheSameMonth();
        duesComeInAheadOfLeaving();
        lotsSinkAllAtOnce();
        outsideIsNoMarsh();
        passRefuses();
        foreseesWhatPassBrings();
        foreseeRefuses();
        wouldTellsTheDifference();
        wouldMayBeLess();
        wouldRefuses();
        bestIsTheGreatestAndOfSeveralTheLeast();
        bestRefuses();
        means();
        digests();
        Check.end("MonthsTest");
    }

    /** Houses at 2 and 4, a market at 1, a workshop at 10, and 9 drained: dues of 3 + 2 + 0 + 5. */
    private static CanalCity smallTown() {
        CanalCity city = new CanalCity();
        Check.drainAll(city, 2, 1, 10, 4, 9);
        city.build(2, 0, 3);
        city.build(1, 0, 5);
        city.build(2, 1, 4);
        city.build(4, 0, 3);
        return city;
    }

    private static void passBringsDues() {
        CanalCity city = smallTown();
        Check.due("coins", city.count(1), 31);
        Check.due("dues", city.count(11), 10);
        Check.due("pass(1)", city.pass(1), 10);
        Check.due("coins", city.count(1), 41);
        Check.due("month", city.count(0), 1);
        Check.due("pass(60)", city.pass(60), 600);
        Check.due("coins", city.count(1), 641);
        Check.due("month", city.count(0), 61);
        Check.due("pass of a new city", new CanalCity().pass(60), 0);
    }

    private static void housesAreLeft() {
        CanalCity city = new CanalCity();
        // Houses at 45 with a workshop at 53: 2 without a market, 1 for it, 1 without boats.
        Check.drainAll(city, 45, 53, 44, 46);
        city.build(5, 5, 3);
        city.build(5, 6, 4);
        city.build(4, 5, 4);
        Check.due("complaints", city.lot(5, 5, 4), 5);
        city.raze(4, 5);
        Check.due("complaints", city.lot(5, 5, 4), 4);
        Check.due("pass(1)", city.pass(1), 2);
        Check.due("kind of the houses", city.lot(5, 5, 0), 2);
        Check.due("houses that were left", city.count(12), 1);
        Check.due("lots of houses", city.count(5), 0);
        city.build(5, 5, 3);
        city.pass(5);
        Check.due("houses that were left, in all", city.count(12), 2);
        Check.due("the workshop stays", city.lot(5, 6, 0), 4);
    }

    private static void housesThatStay() {
        CanalCity city = new CanalCity();
        // At 2 by the canal: 2 without a market and 1 for the workshop are not enough to leave.
        Check.drainAll(city, 2, 10);
        city.build(2, 0, 3);
        city.build(2, 1, 4);
        Check.due("complaints", city.lot(2, 0, 4), 3);
        Check.due("pass(3)", city.pass(3), 18);
        Check.due("kind", city.lot(2, 0, 0), 3);
        Check.due("houses that were left", city.count(12), 0);
        city.raze(2, 0);
        Check.due("razed houses are not left ones", city.count(12), 0);
        city.drain(1, 0);
        city.build(1, 0, 4);
        city.build(2, 0, 3);
        Check.due("complaints by two workshops", city.lot(2, 0, 4), 4);
        city.pass(1);
        Check.due("houses that were left by the canal", city.count(12), 1);
    }

    private static void leftLotsSinkInTheSameMonth() {
        CanalCity city = new CanalCity();
        Check.drainAll(city, 45, 53);
        city.build(5, 5, 3);
        city.build(5, 6, 4);
        Check.due("pass(1)", city.pass(1), 2);
        Check.due("the left lot with three of marsh about it", city.lot(5, 5, 0), 0);
        Check.due("houses that were left", city.count(12), 1);
        Check.due("drained lots", city.count(4), 0);
    }

    private static void duesComeInAheadOfLeaving() {
        CanalCity city = new CanalCity();
        // Houses at 6 with a workshop on three sides and no boats, and a market at 13.
        Check.drainAll(city, 5, 6, 7, 14, 13);
        city.build(6, 0, 3);
        city.build(5, 0, 4);
        city.build(7, 0, 4);
        city.build(6, 1, 4);
        city.build(5, 1, 5);
        Check.due("complaints with a market", city.lot(6, 0, 4), 4);
        Check.due("coins", city.count(1), 23);
        Check.drainAll(city, 12, 21);
        city.build(4, 1, 3);
        city.build(5, 2, 5);
        // Houses 0 and 4, three workshops away from the canal 6, two markets 2; without 6 no market pays.
        Check.due("dues ahead", city.count(11), 12);
        Check.due("pass(1)", city.pass(1), 12);
        Check.due("kind of what was left", city.lot(6, 0, 0), 2);
        Check.due("dues behind", city.count(11), 10);
        Check.due("pass(2)", city.pass(2), 20);
    }

    private static void lotsSinkAllAtOnce() {
        CanalCity city = new CanalCity();
        Check.drainAll(city, 44, 45, 46, 54, 56);
        Check.due("drained", city.count(4), 5);
        city.pass(1);
        // 44 has marsh above and below, but a canal and a drained lot beside it; 45 likewise has two.
        Check.due("44 by the canal", city.lot(4, 5, 0), 2);
        Check.due("45 between", city.lot(5, 5, 0), 2);
        Check.due("46 with two of marsh", city.lot(6, 5, 0), 2);
        Check.due("54 with three of marsh", city.lot(6, 6, 0), 0);
        Check.due("56 in the corner", city.lot(0, 7, 0), 2);
        city.pass(1);
        Check.due("46 then", city.lot(6, 5, 0), 0);
        Check.due("45 not yet", city.lot(5, 5, 0), 2);
        city.pass(1);
        Check.due("45 then", city.lot(5, 5, 0), 0);
        Check.due("44 not yet", city.lot(4, 5, 0), 2);
        city.pass(1);
        Check.due("44 then", city.lot(4, 5, 0), 0);
        city.pass(10);
        Check.due("the corner stays", city.lot(0, 7, 0), 2);
        CanalCity pair = new CanalCity();
        Check.drainAll(pair, 45, 46, 33, 41);
        pair.pass(1);
        Check.due("both of each pair at once", pair.count(4), 0);
    }

    private static void outsideIsNoMarsh() {
        CanalCity city = new CanalCity();
        Check.drainAll(city, 0, 7, 56, 63, 40, 47, 5, 61, 27 + 1, 36 + 8);
        city.pass(1);
        for (int corner : new int[] {0, 7, 56, 63}) {
            Check.due("corner " + corner, city.lot(corner % 8, corner / 8, 0), 2);
        }
        for (int edge : new int[] {40, 47, 5, 61}) {
            Check.due("edge " + edge, city.lot(edge % 8, edge / 8, 0), 0);
        }
        Check.due("three of marsh and the canal", city.lot(4, 3, 0), 0);
        CanalCity edge = new CanalCity();
        Check.drainAll(edge, 2, 1, 40, 32);
        edge.build(1, 0, 4);
        edge.build(0, 4, 4);
        edge.pass(3);
        Check.due("edge with a workshop, a canal and marsh", edge.lot(2, 0, 0), 2);
        Check.due("edge with a workshop and two of marsh", edge.lot(0, 5, 0), 2);
        CanalCity kinds = new CanalCity();
        Check.drainAll(kinds, 45, 44);
        kinds.dig(4, 5);
        kinds.bridge(4, 5);
        kinds.pass(1);
        Check.due("a bridge and three of marsh", kinds.lot(5, 5, 0), 0);
        Check.due("a bridge never sinks", kinds.lot(4, 5, 0), 6);
    }

    private static void passRefuses() {
        CanalCity city = smallTown();
        for (int bad : NO_MONTHS) {
            Check.argument("pass(" + bad + ")", city, () -> city.pass(bad));
        }
    }

    private static CanalCity[] towns() {
        CanalCity sinking = new CanalCity();
        Check.drainAll(sinking, 44, 45, 46, 54, 56, 2, 10);
        sinking.build(2, 0, 3);
        CanalCity leaving = new CanalCity();
        Check.drainAll(leaving, 45, 53, 2, 1, 60);
        leaving.build(5, 5, 3);
        leaving.build(5, 6, 4);
        leaving.build(2, 0, 4);
        leaving.bridge(3, 7);
        return new CanalCity[] {new CanalCity(), smallTown(), sinking, leaving};
    }

    private static void foreseesWhatPassBrings() {
        for (int months : new int[] {1, 2, 3, 7, 59, 60}) {
            for (CanalCity city : towns()) {
                long before = city.digest();
                int[] foreseen = new int[13];
                for (int what = 1; what <= 12; what++) {
                    foreseen[what] = city.foresee(months, what);
                }
                Check.due("digest behind foresee", city.digest(), before);
                Check.due("month behind foresee", city.count(0), 0);
                city.pass(months);
                for (int what = 1; what <= 12; what++) {
                    Check.due("foresee(" + months + ", " + what + ")", foreseen[what], city.count(what));
                }
            }
        }
        CanalCity leaving = towns()[3];
        Check.due("foresee(1, 12)", leaving.foresee(1, 12), 1);
        leaving.pass(1);
        leaving.drain(5, 5);
        leaving.build(5, 5, 3);
        Check.due("foresee(60, 12) counts those before", leaving.foresee(60, 12), 2);
        Check.due("foresee(60, 1)", leaving.foresee(60, 1), leaving.count(1) + 60 * 7);
    }

    private static void foreseeRefuses() {
        CanalCity city = smallTown();
        for (int bad : NO_MONTHS) {
            Check.argument("foresee(" + bad + ", 1)", city, () -> city.foresee(bad, 1));
            Check.argument("foresee(" + bad + ", 0)", city, () -> city.foresee(bad, 0));
            Check.argument("foresee(" + bad + ", 13)", city, () -> city.foresee(bad, 13));
        }
        for (int bad : new int[] {0, -1, 13, Integer.MIN_VALUE, Integer.MAX_VALUE}) {
            Check.outside("foresee(1, " + bad + ")", city, () -> city.foresee(1, bad));
        }
    }

    private static void wouldTellsTheDifference() {
        for (int kind = 3; kind <= 5; kind++) {
            CanalCity city = smallTown();
            int before = city.count(11);
            long digest = city.digest();
            int told = city.would(1, 1, kind);
            Check.due("digest behind would", city.digest(), digest);
            city.build(1, 1, kind);
            Check.due("would(1, 1, " + kind + ")", told, city.count(11) - before);
        }
        CanalCity poor = smallTown();
        Check.spendTo(poor, 0);
        // At 9: by the market and the workshop, away from the canal; the market then has two.
        Check.due("would of houses without coins", poor.would(1, 1, 3), 3);
        Check.due("would of a workshop without coins", poor.would(1, 1, 4), 2);
        Check.due("would of a market without coins", poor.would(1, 1, 5), 0);
        Check.due("coins", poor.count(1), 0);
    }

    private static void wouldMayBeLess() {
        CanalCity city = new CanalCity();
        // Four lots of houses around 21, one of them by boat, and a market in their quarter.
        Check.drainAll(city, 21, 13, 20, 22, 29, 14);
        city.build(5, 1, 3);
        city.build(4, 2, 3);
        city.build(6, 2, 3);
        city.build(5, 3, 3);
        city.build(6, 1, 5);
        Check.due("dues", city.count(11), 3 + 4 + 3 + 3 + 2);
        Check.due("would of a workshop amid houses", city.would(5, 2, 4), 2 - 4);
        checkWouldByBuilding(city, 5, 2);
    }

    private static void checkWouldByBuilding(CanalCity city, int x, int y) {
        for (int kind = 3; kind <= 5; kind++) {
            int told = city.would(x, y, kind);
            int before = city.count(11);
            city.build(x, y, kind);
            Check.due("would(" + x + ", " + y + ", " + kind + ")", told, city.count(11) - before);
            city.raze(x, y);
        }
    }

    private static void wouldRefuses() {
        CanalCity city = smallTown();
        for (int bad : new int[] {-1, 8, Integer.MIN_VALUE, Integer.MAX_VALUE}) {
            Check.outside("would(" + bad + ", 1, 3)", city, () -> city.would(bad, 1, 3));
            Check.outside("would(1, " + bad + ", 3)", city, () -> city.would(1, bad, 3));
            Check.outside("would(1, " + bad + ", 9)", city, () -> city.would(1, bad, 9));
        }
        for (int bad : NO_BUILDING) {
            Check.argument("would(1, 1, " + bad + ")", city, () -> city.would(1, 1, bad));
            Check.argument("would on marsh of " + bad, city, () -> city.would(0, 0, bad));
        }
        city.bridge(3, 4);
        int[] notDrained = {0, 11, 2, 10, 1, 35};
        for (int i = 0; i < notDrained.length; i++) {
            int place = notDrained[i];
            Check.state("would on lot " + place, city, () -> city.would(place % 8, place / 8, 3));
        }
    }

    private static void bestIsTheGreatestAndOfSeveralTheLeast() {
        CanalCity city = new CanalCity();
        for (int kind = 3; kind <= 5; kind++) {
            Check.due("best without drained lots", city.best(kind), -1);
        }
        Check.drainAll(city, 63, 58, 60, 0);
        long digest = city.digest();
        Check.due("best(4) is by the canal, the least of two", city.best(4), 58);
        Check.due("best(3) is by the canal, the least of two", city.best(3), 58);
        Check.due("best(5) of none that bring anything", city.best(5), 0);
        Check.due("digest behind best", city.digest(), digest);
        city.drain(2, 0);
        Check.due("best(4) is then", city.best(4), 2);
        Check.spendTo(city, 0);
        Check.due("best(4) without coins", city.best(4), 2);
        CanalCity town = new CanalCity();
        Check.drainAll(town, 0, 1, 60, 61, 62, 10);
        town.build(5, 7, 3);
        town.build(6, 7, 3);
        Check.due("best(5) is the quarter with houses", town.best(5), 60);
        Check.due("would(0, 0, 5)", town.would(0, 0, 5), 0);
        Check.due("would(4, 7, 5)", town.would(4, 7, 5), 5);
        CanalCity worse = new CanalCity();
        Check.drainAll(worse, 45, 46, 37, 53, 44);
        worse.build(5, 4, 3);
        worse.build(4, 5, 5);
        worse.build(5, 6, 3);
        worse.build(6, 5, 3);
        Check.due("best(4) where only less is to be had", worse.best(4), 45);
        Check.due("would there", worse.would(5, 5, 4), 2 - 3);
    }

    private static void bestRefuses() {
        CanalCity city = smallTown();
        for (int bad : NO_BUILDING) {
            Check.argument("best(" + bad + ")", city, () -> city.best(bad));
        }
        CanalCity bare = new CanalCity();
        Check.argument("best(2) without drained lots", bare, () -> bare.best(2));
    }

    private static void means() {
        CanalCity city = new CanalCity();
        Check.due("mean without houses", city.mean(), 0.0);
        Check.drainAll(city, 2, 1, 0, 63);
        Check.due("mean of drained lots", city.mean(), 0.0);
        city.build(2, 0, 3);
        Check.due("mean of one", city.mean(), 2.0);
        city.build(1, 0, 3);
        Check.due("mean of two", city.mean(), 2.5);
        city.build(0, 0, 3);
        Check.due("mean of three", city.mean(), 8.0 / 3);
        city.build(7, 7, 5);
        Check.due("a market elsewhere changes nothing", city.mean(), 8.0 / 3);
        city.raze(0, 0);
        city.build(0, 0, 5);
        Check.due("mean with a market", city.mean(), 0.5);
    }

    private static void digests() {
        for (CanalCity city : towns()) {
            Check.due("digest", city.digest(), digestOf(city));
        }
        // Towns made anew, as an object answers no more than 512 calls.
        for (CanalCity city : towns()) {
            city.pass(2);
            Check.due("digest two months later", city.digest(), digestOf(city));
        }
        CanalCity one = new CanalCity();
        CanalCity other = new CanalCity();
        Check.due("digests of two new ones", one.digest(), other.digest());
        one.pass(1);
        Check.due("digest knows the month", one.digest() == other.digest() ? 1 : 0, 0);
    }

    private static long digestOf(CanalCity city) {
        long d = 1409;
        for (int what = 0; what <= 12; what++) {
            d = d * 31 + city.count(what);
        }
        for (int place = 0; place < 64; place++) {
            for (int what = 0; what <= 5; what++) {
                d = d * 31 + city.lot(place % 8, place / 8, what);
            }
        }
        return d;
    }
}
