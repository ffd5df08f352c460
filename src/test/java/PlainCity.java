import java.util.ArrayDeque;
import java.util.Deque;
import java.util.TreeSet;

/**
 * The document once more, for comparing: nothing is kept but the kinds and three numbers, each
 * answer is found anew, and by other ways than in CanalCity.
 */
final class PlainCity {
    private static final int FAR = 1000;
    private int[][] kinds = new int[8][8];
    private int month = 0;
    private int coins = 60;
    private int left = 0;

    PlainCity() {
        for (int y = 0; y < 8; y++) {
            kinds[3][y] = 1;
        }
    }

    private PlainCity(PlainCity other) {
        for (int x = 0; x < 8; x++) {
            kinds[x] = other.kinds[x].clone();
        }
        month = other.month;
        coins = other.coins;
        left = other.left;
    }

    private static boolean inside(int x, int y) {
        return (x & ~7) == 0 && (y & ~7) == 0;
    }

    private static void needLot(int x, int y) {
        if (!inside(x, y)) {
            throw new IndexOutOfBoundsException();
        }
    }

    private static void needArgument(boolean fine) {
        if (!fine) {
            throw new IllegalArgumentException();
        }
    }

    private static void needState(boolean fine) {
        if (!fine) {
            throw new IllegalStateException();
        }
    }

    private static void needIndex(int number, int least, int most) {
        if (number < least || number > most) {
            throw new IndexOutOfBoundsException();
        }
    }

    private int kind(int x, int y) {
        return inside(x, y) ? kinds[x][y] : 99;
    }

    private boolean land(int x, int y) {
        return inside(x, y) && kinds[x][y] >= 2;
    }

    private boolean water(int x, int y) {
        return inside(x, y) && (kinds[x][y] == 1 || kinds[x][y] == 6);
    }

    int drain(int x, int y) {
        needLot(x, y);
        needState(kinds[x][y] == 0 && coins >= 2);
        kinds[x][y] = 2;
        return coins -= 2;
    }

    int dig(int x, int y) {
        needLot(x, y);
        needState((kinds[x][y] == 0 || kinds[x][y] == 2) && coins >= 3);
        kinds[x][y] = 1;
        return coins -= 3;
    }

    int build(int x, int y, int kind) {
        needLot(x, y);
        needArgument(kind == 3 || kind == 4 || kind == 5);
        int cost = kind == 3 ? 4 : kind == 4 ? 6 : 5;
        needState(kinds[x][y] == 2 && coins >= cost);
        kinds[x][y] = kind;
        return coins -= cost;
    }

    int bridge(int x, int y) {
        needLot(x, y);
        needState(kinds[x][y] == 1 && coins >= 7);
        kinds[x][y] = 6;
        coins -= 7;
        return quarter(x, y).size();
    }

    int raze(int x, int y) {
        needLot(x, y);
        int before = kinds[x][y];
        needState(before >= 3);
        kinds[x][y] = before == 6 ? 1 : 2;
        return before;
    }

    private TreeSet<Integer> quarter(int x, int y) {
        TreeSet<Integer> all = new TreeSet<>();
        gather(x, y, all);
        return all;
    }

    private void gather(int x, int y, TreeSet<Integer> all) {
        if (land(x, y) && all.add(8 * y + x)) {
            gather(x + 1, y, all);
            gather(x - 1, y, all);
            gather(x, y + 1, all);
            gather(x, y - 1, all);
        }
    }

    private int inQuarter(int x, int y, int kind) {
        int found = 0;
        for (int place : quarter(x, y)) {
            if (kinds[place % 8][place / 8] == kind) {
                found++;
            }
        }
        return found;
    }

    /** Steps from each lot to the one at (x, y), found by lowering estimates until none gets lower. */
    private int[][] steps(int x, int y, boolean byLand) {
        int[][] far = new int[8][8];
        for (int[] column : far) {
            java.util.Arrays.fill(column, FAR);
        }
        far[x][y] = 0;
        boolean lower = true;
        while (lower) {
            lower = false;
            for (int place = 63; place >= 0; place--) {
                int px = place % 8;
                int py = place / 8;
                if (!(byLand ? land(px, py) : water(px, py))) {
                    continue;
                }
                int near = Math.min(Math.min(at(far, px - 1, py), at(far, px + 1, py)),
                        Math.min(at(far, px, py - 1), at(far, px, py + 1))) + 1;
                if (near < far[px][py]) {
                    far[px][py] = near;
                    lower = true;
                }
            }
        }
        return far;
    }

    private static int at(int[][] far, int x, int y) {
        return inside(x, y) ? far[x][y] : FAR;
    }

    private boolean open(int x, int y) {
        return water(x, y) && openLots()[x][y];
    }

    private boolean[][] openLots() {
        boolean[][] open = new boolean[8][8];
        Deque<int[]> todo = new ArrayDeque<>();
        todo.push(new int[] {3, 0});
        while (!todo.isEmpty()) {
            int[] p = todo.pop();
            if (water(p[0], p[1]) && !open[p[0]][p[1]]) {
                open[p[0]][p[1]] = true;
                todo.push(new int[] {p[0] - 1, p[1]});
                todo.push(new int[] {p[0] + 1, p[1]});
                todo.push(new int[] {p[0], p[1] - 1});
                todo.push(new int[] {p[0], p[1] + 1});
            }
        }
        return open;
    }

    private boolean byBoat(int x, int y) {
        return land(x, y) && kinds[x][y] != 6
                && (open(x - 1, y) || open(x + 1, y) || open(x, y - 1) || open(x, y + 1));
    }

    private int beside(int x, int y, int kind) {
        return (kind(x - 1, y) == kind ? 1 : 0) + (kind(x + 1, y) == kind ? 1 : 0)
                + (kind(x, y - 1) == kind ? 1 : 0) + (kind(x, y + 1) == kind ? 1 : 0);
    }

    private int complaints(int x, int y) {
        if (kinds[x][y] != 3) {
            return 0;
        }
        return (inQuarter(x, y, 5) > 0 ? 0 : 2) + beside(x, y, 4) + (byBoat(x, y) ? 0 : 1);
    }

    private int dues(int x, int y) {
        int kind = kinds[x][y];
        if (kind == 3) {
            return complaints(x, y) > 4 ? 0 : 4 - complaints(x, y);
        }
        return kind == 4 ? byBoat(x, y) ? 5 : 2 : kind == 5 ? inQuarter(x, y, 3) / 2 : 0;
    }

    int lot(int x, int y, int what) {
        needLot(x, y);
        needIndex(what, 0, 5);
        int[] all = {kinds[x][y], land(x, y) ? quarter(x, y).first() : -1, quarter(x, y).size(),
            byBoat(x, y) || open(x, y) ? 1 : 0, complaints(x, y), dues(x, y)};
        return all[what];
    }

    int count(int what) {
        needIndex(what, 0, 12);
        int[] all = new int[13];
        all[0] = month;
        all[1] = coins;
        all[12] = left;
        for (int place = 0; place < 64; place++) {
            int x = place % 8;
            int y = place / 8;
            all[2 + kinds[x][y]]++;
            all[9] += land(x, y) && quarter(x, y).first() == place ? 1 : 0;
            all[10] += complaints(x, y);
            all[11] += dues(x, y);
        }
        return all[what];
    }

    int walk(int a, int b) {
        needIndex(a, 0, 63);
        needIndex(b, 0, 63);
        needState(land(a % 8, a / 8) && land(b % 8, b / 8));
        int far = steps(b % 8, b / 8, true)[a % 8][a / 8];
        return far >= FAR ? -1 : far;
    }

    int sail(int lot) {
        needIndex(lot, 0, 63);
        needState(water(lot % 8, lot / 8));
        int far = steps(3, 0, false)[lot % 8][lot / 8];
        return far >= FAR ? -1 : far;
    }

    int pass(int months) {
        needArgument(months >= 1 && months <= 60);
        int before = coins;
        for (int i = 0; i < months; i++) {
            passOne();
        }
        return coins - before;
    }

    private void passOne() {
        coins += count(11);
        PlainCity behind = new PlainCity(this);
        for (int place = 0; place < 64; place++) {
            int x = place % 8;
            int y = place / 8;
            if (complaints(x, y) >= 4) {
                behind.kinds[x][y] = 2;
                left++;
            }
        }
        PlainCity sunk = new PlainCity(behind);
        for (int place = 0; place < 64; place++) {
            int x = place % 8;
            int y = place / 8;
            if (behind.kinds[x][y] == 2 && behind.beside(x, y, 0) >= 3) {
                sunk.kinds[x][y] = 0;
            }
        }
        kinds = sunk.kinds;
        month++;
    }

    int foresee(int months, int what) {
        needArgument(months >= 1 && months <= 60);
        needIndex(what, 1, 12);
        PlainCity then = new PlainCity(this);
        then.pass(months);
        return then.count(what);
    }

    int would(int x, int y, int kind) {
        needLot(x, y);
        needArgument(kind >= 3 && kind <= 5);
        needState(kinds[x][y] == 2);
        PlainCity then = new PlainCity(this);
        then.kinds[x][y] = kind;
        return then.count(11) - count(11);
    }

    int best(int kind) {
        needArgument(kind >= 3 && kind <= 5);
        int found = -1;
        for (int place = 63; place >= 0; place--) {
            if (kinds[place % 8][place / 8] == 2 && (found < 0
                    || would(place % 8, place / 8, kind) >= would(found % 8, found / 8, kind))) {
                found = place;
            }
        }
        return found;
    }

    double mean() {
        int houses = count(5);
        return houses == 0 ? 0.0 : count(10) / (double) houses;
    }

    long digest() {
        long d = 1409;
        for (int what = 0; what <= 12; what++) {
            d = d * 31 + count(what);
        }
        for (int place = 0; place < 64; place++) {
            for (int what = 0; what <= 5; what++) {
                d = d * 31 + lot(place % 8, place / 8, what);
            }
        }
        return d;
    }
}
