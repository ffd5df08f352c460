/** Promises 1 to 6: a new object, drain, dig, build, bridge, raze. */
public final class BuildingTest {
    private static final int[] OUTSIDE = {-1, 8, 9, 64, Integer.MIN_VALUE, Integer.MAX_VALUE};

    public static void main(String[] args) {
        newObject();
        drainsMarsh();
        drainRefuses();
        digs();
        digRefuses();
        builds();
        buildRefuses();
        buildTellsTheFirstException();
        bridges();
        bridgeRefuses();
        razes();
        razeRefuses();
        Check.end("BuildingTest");
    }

    private static void newObject() {
        CanalCity city = new CanalCity();
        int[] counts = {0, 60, 56, 8, 0, 0, 0, 0, 0, 0, 0, 0, 0};
        for (int what = 0; what < counts.length; what++) {
            Check.due("new count(" + what + ")", city.count(what), counts[what]);
        }
        for (int y = 0; y < 8; y++) {
            for (int x = 0; x < 8; x++) {
                int canal = x == 3 ? 1 : 0;
                int[] facts = {canal, -1, 0, canal, 0, 0};
                for (int what = 0; what < facts.length; what++) {
                    Check.due("new lot(" + x + ", " + y + ", " + what + ")", city.lot(x, y, what), facts[what]);
                }
            }
        }
        CanalCity other = new CanalCity();
        other.drain(0, 0);
        Check.due("kind of the first object's lot", city.lot(0, 0, 0), 0);
        Check.due("coins of the first object", city.count(1), 60);
    }

    private static void drainsMarsh() {
        CanalCity city = new CanalCity();
        Check.due("drain(0, 0)", city.drain(0, 0), 58);
        Check.due("drain(7, 7)", city.drain(7, 7), 56);
        Check.due("drain(7, 0)", city.drain(7, 0), 54);
        Check.due("drain(2, 5)", city.drain(2, 5), 52);
        Check.due("kind", city.lot(2, 5, 0), 2);
        Check.due("kind of the mirrored lot", city.lot(5, 2, 0), 0);
        Check.due("drained lots", city.count(4), 4);
        Check.due("marsh", city.count(2), 52);
        Check.due("month", city.count(0), 0);
        CanalCity poor = new CanalCity();
        Check.spendTo(poor, 2);
        Check.due("drain with just enough", poor.drain(0, 0), 0);
    }

    private static void drainRefuses() {
        CanalCity city = new CanalCity();
        for (int bad : OUTSIDE) {
            Check.outside("drain(" + bad + ", 0)", city, () -> city.drain(bad, 0));
            Check.outside("drain(0, " + bad + ")", city, () -> city.drain(0, bad));
        }
        CanalCity all = withAllKinds();
        for (int kind = 1; kind <= 6; kind++) {
            int x = 4;
            int y = kind;
            Check.due("kind made", all.lot(x, y, 0), kind);
            Check.state("drain on kind " + kind, all, () -> all.drain(x, y));
        }
        CanalCity poor = new CanalCity();
        Check.spendTo(poor, 1);
        Check.state("drain with 1 coin", poor, () -> poor.drain(0, 0));
        Check.outside("drain outside with 1 coin", poor, () -> poor.drain(0, 8));
    }

    /** Lots (4, k) of the kinds k, 1 to 6, and (4, 0) and (4, 7) marsh; 24 coins are left. */
    private static CanalCity withAllKinds() {
        CanalCity city = new CanalCity();
        city.dig(4, 1);
        city.dig(4, 6);
        city.bridge(4, 6);
        Check.drainAll(city, 20, 28, 36, 44);
        city.build(4, 3, 3);
        city.build(4, 4, 4);
        city.build(4, 5, 5);
        Check.due("coins of all kinds", city.count(1), 24);
        return city;
    }

    private static void digs() {
        CanalCity city = new CanalCity();
        Check.due("dig(0, 6) of marsh", city.dig(0, 6), 57);
        Check.due("kind", city.lot(0, 6, 0), 1);
        Check.due("kind of the mirrored lot", city.lot(6, 0, 0), 0);
        Check.due("drain(2, 2)", city.drain(2, 2), 55);
        Check.due("dig(2, 2) of a drained lot", city.dig(2, 2), 52);
        Check.due("kind", city.lot(2, 2, 0), 1);
        Check.due("canals", city.count(3), 10);
        Check.due("drained", city.count(4), 0);
        Check.due("a closed canal is not open", city.lot(0, 6, 3), 0);
        Check.due("a canal beside the first one is open", city.lot(2, 2, 3), 1);
        CanalCity poor = new CanalCity();
        Check.spendTo(poor, 3);
        Check.due("dig with just enough", poor.dig(0, 0), 0);
    }

    private static void digRefuses() {
        CanalCity city = new CanalCity();
        for (int bad : OUTSIDE) {
            Check.outside("dig(" + bad + ", 0)", city, () -> city.dig(bad, 0));
            Check.outside("dig(0, " + bad + ")", city, () -> city.dig(0, bad));
        }
        CanalCity all = withAllKinds();
        for (int kind : new int[] {1, 3, 4, 5, 6}) {
            int y = kind;
            Check.state("dig on kind " + kind, all, () -> all.dig(4, y));
        }
        Check.due("dig on kind 2", all.dig(4, 2), 21);
        Check.due("dig on kind 0", all.dig(4, 0), 18);
        CanalCity poor = new CanalCity();
        Check.spendTo(poor, 2);
        Check.state("dig with 2 coins", poor, () -> poor.dig(0, 0));
        Check.outside("dig outside with 2 coins", poor, () -> poor.dig(8, 0));
    }

    private static void builds() {
        CanalCity city = new CanalCity();
        Check.drainAll(city, 2, 10, 18);
        Check.due("build(2, 0, 3)", city.build(2, 0, 3), 50);
        Check.due("build(2, 1, 4)", city.build(2, 1, 4), 44);
        Check.due("build(2, 2, 5)", city.build(2, 2, 5), 39);
        for (int i = 0; i < 3; i++) {
            Check.due("kind built", city.lot(2, i, 0), 3 + i);
            Check.due("count of the kind built", city.count(5 + i), 1);
        }
        Check.due("drained", city.count(4), 0);
        int[] costs = {4, 6, 5};
        for (int i = 0; i < costs.length; i++) {
            CanalCity poor = new CanalCity();
            poor.drain(2, 0);
            Check.spendTo(poor, costs[i]);
            Check.due("build with just enough", poor.build(2, 0, 3 + i), 0);
        }
    }

    private static void buildRefuses() {
        CanalCity city = new CanalCity();
        city.drain(2, 0);
        for (int bad : OUTSIDE) {
            Check.outside("build(" + bad + ", 0, 3)", city, () -> city.build(bad, 0, 3));
            Check.outside("build(2, " + bad + ", 3)", city, () -> city.build(2, bad, 3));
        }
        for (int bad : new int[] {2, 6, 0, 1, -1, 7, -3, Integer.MIN_VALUE, Integer.MAX_VALUE}) {
            Check.argument("build(2, 0, " + bad + ")", city, () -> city.build(2, 0, bad));
        }
        CanalCity all = withAllKinds();
        for (int kind : new int[] {0, 1, 3, 4, 5, 6}) {
            int y = kind;
            Check.state("houses on kind " + kind, all, () -> all.build(4, y, 3));
            Check.state("a workshop on kind " + kind, all, () -> all.build(4, y, 4));
            Check.state("a market on kind " + kind, all, () -> all.build(4, y, 5));
        }
        int[] costs = {4, 6, 5};
        for (int i = 0; i < costs.length; i++) {
            CanalCity poor = new CanalCity();
            poor.drain(2, 0);
            Check.spendTo(poor, costs[i] - 1);
            int kind = 3 + i;
            Check.state("build of " + kind + " with a coin too few", poor, () -> poor.build(2, 0, kind));
        }
    }

    private static void buildTellsTheFirstException() {
        CanalCity city = new CanalCity();
        Check.outside("build(8, 0, 9)", city, () -> city.build(8, 0, 9));
        Check.outside("build(0, -1, 2)", city, () -> city.build(0, -1, 2));
        Check.argument("build on marsh of no kind", city, () -> city.build(0, 0, 6));
        CanalCity poor = new CanalCity();
        poor.drain(2, 0);
        Check.spendTo(poor, 0);
        Check.outside("build outside without coins", poor, () -> poor.build(2, 8, 3));
        Check.argument("build of no kind without coins", poor, () -> poor.build(2, 0, 2));
        Check.state("build without coins", poor, () -> poor.build(2, 0, 3));
    }

    private static void bridges() {
        CanalCity city = new CanalCity();
        Check.due("bridge(3, 0) alone", city.bridge(3, 0), 1);
        Check.due("kind", city.lot(3, 0, 0), 6);
        Check.due("coins", city.count(1), 53);
        Check.due("canals", city.count(3), 7);
        Check.due("bridges", city.count(8), 1);
        Check.drainAll(city, 42, 41, 44);
        Check.due("quarters ahead of the bridge", city.count(9), 3);
        Check.due("bridge(3, 5) joins both banks", city.bridge(3, 5), 4);
        Check.due("quarters behind the bridge", city.count(9), 2);
        city.dig(6, 6);
        Check.due("bridge(6, 6) over closed water", city.bridge(6, 6), 1);
        CanalCity poor = new CanalCity();
        Check.spendTo(poor, 7);
        Check.due("bridge with just enough", poor.bridge(3, 0), 1);
        Check.due("coins", poor.count(1), 0);
    }

    private static void bridgeRefuses() {
        CanalCity city = new CanalCity();
        for (int bad : OUTSIDE) {
            Check.outside("bridge(" + bad + ", 0)", city, () -> city.bridge(bad, 0));
            Check.outside("bridge(3, " + bad + ")", city, () -> city.bridge(3, bad));
        }
        CanalCity all = withAllKinds();
        for (int kind : new int[] {0, 2, 3, 4, 5, 6}) {
            int y = kind;
            Check.state("bridge on kind " + kind, all, () -> all.bridge(4, y));
        }
        CanalCity poor = new CanalCity();
        Check.spendTo(poor, 6);
        Check.state("bridge with 6 coins", poor, () -> poor.bridge(3, 0));
        Check.outside("bridge outside with 6 coins", poor, () -> poor.bridge(3, 8));
    }

    private static void razes() {
        CanalCity city = withAllKinds();
        Check.spendTo(city, 0);
        for (int kind = 3; kind <= 6; kind++) {
            Check.due("raze of kind " + kind, city.raze(4, kind), kind);
            Check.due("kind behind it", city.lot(4, kind, 0), kind == 6 ? 1 : 2);
            Check.due("coins", city.count(1), 0);
        }
        Check.due("houses that were left", city.count(12), 0);
        Check.due("sum of what is built", city.count(5) + city.count(6) + city.count(7) + city.count(8), 0);
    }

    private static void razeRefuses() {
        CanalCity city = new CanalCity();
        for (int bad : OUTSIDE) {
            Check.outside("raze(" + bad + ", 0)", city, () -> city.raze(bad, 0));
            Check.outside("raze(0, " + bad + ")", city, () -> city.raze(0, bad));
        }
        CanalCity all = withAllKinds();
        for (int kind = 0; kind <= 2; kind++) {
            int y = kind;
            Check.state("raze of kind " + kind, all, () -> all.raze(4, y));
        }
        all.raze(4, 6);
        Check.state("raze of a bridge that is gone", all, () -> all.raze(4, 6));
    }
}
