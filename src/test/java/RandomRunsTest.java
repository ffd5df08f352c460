/** All promises: long runs of calls, each answered by CanalCity as by PlainCity. */
public final class RandomRunsTest {
    private static final int RUNS = 120;
    private static final int CALLS = 250;
    private static final int CALL_SORTS = 15;
    private static final int LAND = 1 << 2 | 1 << 3 | 1 << 4 | 1 << 5 | 1 << 6;
    private static final int WATER = 1 << 1 | 1 << 6;
    private static final int[] ODD = {-1, 8, 9, 13, 61, 64, -8, 100, Integer.MIN_VALUE, Integer.MAX_VALUE};

    interface Answer {
        String get();
    }

    private long seed;
    private final CanalCity city = new CanalCity();
    private final PlainCity plain = new PlainCity();
    // Where building goes on, so that quarters grow together instead of standing far apart.
    private final int left;
    private final int top;
    private final int size;
    private final int oddness;

    private RandomRunsTest(long seed) {
        this.seed = seed * 0x9E3779B97F4A7C15L + 1;
        left = number(5);
        top = number(8);
        size = 3 + number(6);
        oddness = number(3) == 0 ? 8 : 60;
    }

    public static void main(String[] args) {
        int[] seen = new int[CALL_SORTS];
        int leaving = 0;
        for (int run = 1; run <= RUNS; run++) {
            RandomRunsTest one = new RandomRunsTest(run);
            one.play(run, seen);
            leaving += one.plain.count(12) > 0 ? 1 : 0;
        }
        Check.due("runs with houses that were left are many", leaving > RUNS / 4 ? 1 : 0, 1);
        for (int sort = 0; sort < CALL_SORTS; sort++) {
            Check.due("calls of sort " + sort + " that answered are many", seen[sort] > 200 ? 1 : 0, 1);
        }
        Check.end("RandomRunsTest");
    }

    /** Steps of a fixed sequence, so that each run of the test is the same. */
    private int number(int bound) {
        seed = seed * 6364136223846793005L + 1442695040888963407L;
        return (int) ((seed >>> 33) % bound);
    }

    private void play(int run, int[] seen) {
        for (int call = 0; call < CALLS; call++) {
            int sort = sort();
            int[] a = arguments(sort);
            String what = "run " + run + ", call " + call + ": sort " + sort + " (" + a[0] + ", " + a[1] + ", " + a[2] + ")";
            String due = answer(() -> ofPlain(sort, a));
            Check.due(what, answer(() -> ofCity(sort, a)), due);
            if (!due.startsWith("java.")) {
                seen[sort]++;
            }
            Check.due("digest behind " + what, city.digest(), plain.digest());
        }
    }

    private static String answer(Answer call) {
        try {
            return call.get();
        } catch (RuntimeException e) {
            return e.getClass().getName();
        }
    }

    private int odd(int usual) {
        return number(oddness) == 0 ? ODD[number(ODD.length)] : usual;
    }

    private int[] arguments(int sort) {
        switch (sort) {
            case 0:
                return at(1 << 0, 0);
            case 1:
                return at(1 << 0 | 1 << 2, 0);
            case 2: case 11:
                return at(1 << 2, odd(3 + number(3)));
            case 3:
                return at(1 << 1, 0);
            case 4:
                return at(1 << 3 | 1 << 4 | 1 << 5 | 1 << 6, 0);
            case 5:
                return at(127, odd(number(6)));
            case 6:
                return new int[] {odd(number(13)), 0, 0};
            case 7:
                return new int[] {odd(someLot(LAND)), odd(someLot(LAND)), 0};
            case 8:
                return new int[] {odd(someLot(WATER)), 0, 0};
            case 9:
                return new int[] {odd(1 + number(number(3) == 0 ? 12 : 2)), 0, 0};
            case 10:
                return new int[] {odd(1 + number(12)), odd(1 + number(12)), 0};
            case 12:
                return new int[] {odd(3 + number(3)), 0, 0};
            default:
                return new int[] {0, 0, 0};
        }
    }

    private int[] at(int kinds, int last) {
        int place = someLot(kinds);
        return new int[] {odd(place % 8), odd(place / 8), last};
    }

    /** Some lot, mostly one of these kinds (a bit each) in the part that is built on. */
    private int someLot(int kinds) {
        int place = number(64);
        int tries = number(6) == 0 ? 0 : 60;
        for (int i = 0; i < tries; i++) {
            int x = (left + number(size)) % 8;
            int y = (top + number(size)) % 8;
            if ((kinds >> plain.lot(x, y, 0) & 1) != 0) {
                return 8 * y + x;
            }
        }
        return place;
    }

    /** Building is done more often than the rest, and what costs much or tears down is rarer. */
    private int sort() {
        switch (number(6)) {
            case 0:
                return 0;
            case 1:
                return 2;
            default:
                int sort = number(CALL_SORTS);
                return (sort == 1 || sort == 3 || sort == 4) && number(2) == 0 ? 9 : sort;
        }
    }

    private String ofCity(int sort, int[] a) {
        switch (sort) {
            case 0: return "" + city.drain(a[0], a[1]);
            case 1: return "" + city.dig(a[0], a[1]);
            case 2: return "" + city.build(a[0], a[1], a[2]);
            case 3: return "" + city.bridge(a[0], a[1]);
            case 4: return "" + city.raze(a[0], a[1]);
            case 5: return "" + city.lot(a[0], a[1], a[2]);
            case 6: return "" + city.count(a[0]);
            case 7: return "" + city.walk(a[0], a[1]);
            case 8: return "" + city.sail(a[0]);
            case 9: return "" + city.pass(a[0]);
            case 10: return "" + city.foresee(a[0], a[1]);
            case 11: return "" + city.would(a[0], a[1], a[2]);
            case 12: return "" + city.best(a[0]);
            case 13: return "" + city.mean();
            default: return "" + city.digest();
        }
    }

    private String ofPlain(int sort, int[] a) {
        switch (sort) {
            case 0: return "" + plain.drain(a[0], a[1]);
            case 1: return "" + plain.dig(a[0], a[1]);
            case 2: return "" + plain.build(a[0], a[1], a[2]);
            case 3: return "" + plain.bridge(a[0], a[1]);
            case 4: return "" + plain.raze(a[0], a[1]);
            case 5: return "" + plain.lot(a[0], a[1], a[2]);
            case 6: return "" + plain.count(a[0]);
            case 7: return "" + plain.walk(a[0], a[1]);
            case 8: return "" + plain.sail(a[0]);
            case 9: return "" + plain.pass(a[0]);
            case 10: return "" + plain.foresee(a[0], a[1]);
            case 11: return "" + plain.would(a[0], a[1], a[2]);
            case 12: return "" + plain.best(a[0]);
            case 13: return "" + plain.mean();
            default: return "" + plain.digest();
        }
    }
}
