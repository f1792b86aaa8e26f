import java.util.ArrayList;
import java.util.List;

/**
 * "It FAILS by the first REASON that is told; then it has done nothing", and what is BAD does nothing either: of two
 * objects with the same calls behind them one gets such a step, too, and nothing that can be looked at tells them apart.
 */
public final class FailedStepTest {
    private static final int LEAST = Integer.MIN_VALUE, MOST = Integer.MAX_VALUE;

    // Stand 0 has a bike with a wheel, a disc and a battery, stand 1 one with a disc that hangs and a dynamo, stand 2 one
    // without any part, stand 3 none; basket, rack (0 for all wheels, 1 for discs alone) and grid 2, 3 are not there.
    private static final int[][] FULL_SHOP = {
        {0, 0, 11, 0}, {2, 0, 0, 21}, {2, 0, 1, 131}, {5, 0, 2, 1}, {3, 0, 0, 0}, {3, 0, 1, 0}, {3, 0, 1, 0},
        {0, 1, 12, 0}, {2, 1, 0, 122}, {5, 1, 1, 0}, {3, 1, 0, 0}, {0, 2, 13, 0},
        {7, 0, 3, 0}, {11, 0, 0, 31}, {11, 0, 2, 33}, {7, 1, 0, 0},
        {8, 0, 3, 0}, {8, 1, 3, 1}, {13, 0, 0, 0}, {13, 0, 2, 1}, {13, 1, 1, 1},
        {9, 0, 2, 3}, {12, 0, 1, 2}, {12, 0, 0, 1}, {9, 1, 2, 0},
        {15, 1, 1, 0}, {15, 2, 2, 0},
    };

    private static final int[][] NOTHING = {
        {2, 3, 0, 5}, {2, 3, 1, 105}, {2, 3, 0, 0}, {3, 3, 0, 0}, {3, 2, 0, 0}, {3, 1, 1, 0}, {4, 3, 1, 0}, {4, 2, 1, 0},
        {4, 1, 1, 0}, {5, 3, 0, 0}, {5, 3, 1, 0}, {5, 3, 2, 5}, {6, 3, 4, 0}, {6, 2, 4, 0},
        {10, 2, 0, 0}, {10, 2, 1, 0}, {10, 2, 2, 0}, {10, 2, 3, -1}, {11, 2, 0, 5}, {11, 2, -1, 5}, {12, 2, 0, 0}, {12, 2, 9, 9},
        {13, 2, 0, 0}, {13, 2, 9, 0}, {13, 0, 0, 3}, {13, 0, 3, 3}, {13, 1, 1, 3}, {13, 2, 0, 3},
        {14, 2, 0, 0}, {14, 2, -1, 0}, {14, 0, 1, 0}, {14, 1, 0, 0}, {16, 0, 1, 0}, {16, 3, LEAST, 0},
    };
    private static final int[][] SIZE = {
        {7, 0, -1, 0}, {7, 2, LEAST, 0}, {8, 0, -1, 1}, {8, 1, -1, 0}, {8, 2, LEAST, 1},
        {9, 0, -1, 2}, {9, 0, 2, -1}, {9, 0, 0, -1}, {9, 0, -1, -1}, {9, 2, LEAST, 12}, {9, 2, 12, LEAST},
    };
    private static final int[][] INDEX = {
        {10, 0, 3, 2}, {10, 0, 3, -1}, {10, 0, -1, MOST}, {10, 1, 3, 2}, {11, 0, 3, 5}, {11, 0, -1, 5}, {11, 1, 0, 5},
        {11, 0, MOST, 5}, {12, 0, 2, 0}, {12, 0, -1, 0}, {12, 0, 0, 3}, {12, 0, 1, -1}, {12, 1, 0, 0}, {12, 0, 0, LEAST},
        {13, 0, 3, 0}, {13, 0, -1, 1}, {13, 1, 3, 0}, {13, 1, LEAST, 2}, {14, 0, 3, 0}, {14, 0, -1, 0}, {14, 1, MOST, 0},
    };
    private static final int[][] STORE = {{13, 1, 0, 0}, {13, 1, 1, 0}, {13, 1, 2, 0}};
    private static final int[][] CAST = {{14, 0, 0, 0}};
    private static final int[][] LATE = {{16, 1, 1, 0}, {16, 1, -1, 0}};
    private static final int[][] BROKEN = {{16, 2, 1, 0}, {16, 2, MOST, 0}};
    private static final int[][][] FAILING = {NOTHING, SIZE, INDEX, STORE, CAST, LATE, BROKEN};

    private static final int[][] BAD = {
        {-1, 0, 0, 0}, {17, 0, 0, 0}, {0, -1, 5, 0}, {0, 4, 5, 0}, {1, 4, 0, 0}, {2, -1, 0, 5}, {3, 4, 0, 0}, {5, 4, 1, 0},
        {6, -1, 1, 0}, {7, 0, 13, 0}, {7, 4, 1, 0}, {8, 0, 13, 1}, {8, -1, 1, 1}, {9, 0, 13, 1}, {9, 0, 1, 13}, {9, 0, -1, 13},
        {9, 0, 13, -1}, {9, 4, 1, 1}, {11, -1, 0, 5}, {12, 4, 0, 0}, {13, 0, 0, -1}, {13, 0, 0, 4}, {13, 4, 0, 0}, {14, -1, 0, 0},
        {15, 4, 2, 0}, {16, -1, 1, 0},
    };

    public static void main(String[] args) {
        for (int i = 0; i < FAILING.length; i++) {
            for (int[] step : FAILING[i]) {
                failsAlone(step, i + 1);
                failsInARun(step, i + 1);
            }
        }
        for (int[] step : BAD) {
            isBad(step);
        }
        Due.end();
    }

    private static String name(int[] step) {
        return "step " + step[0] + ", " + step[1] + ", " + step[2] + ", " + step[3];
    }

    private static CycleShop fullShop() {
        CycleShop shop = new CycleShop();
        for (int[] step : FULL_SHOP) {
            Due.is("failed is " + name(step), shop.act(step[0], step[1], step[2], step[3]) < LEAST ? 1 : 0, 0);
        }
        return shop;
    }

    private static void failsAlone(int[] step, int reason) {
        Due.sentence("act: then it has done nothing");
        CycleShop shop = fullShop();
        Due.fails(shop, step[0], step[1], step[2], step[3], reason);
        onlyTallied(shop, reason, 1, name(step));
        looksUntouched(shop, name(step));
    }

    private static void failsInARun(int[] step, int reason) {
        Due.sentence("run: then it has done nothing, nor has its STEAD that FAILS, too");
        CycleShop shop = fullShop();
        Due.step(shop, 0, step, 0, 0);
        Due.is("run of " + name(step), shop.run(0, 1), 0);
        Due.told(shop, 0, 2, reason, 0, 1);
        onlyTallied(shop, reason, 2, name(step));
        looksUntouched(shop, name(step));
    }

    private static void isBad(int[] step) {
        Due.sentence("BAD does nothing");
        CycleShop shop = fullShop();
        Due.act(shop, step[0], step[1], step[2], step[3], Due.FAILED);
        Due.step(shop, 0, step, CycleShop.NONE, CycleShop.BAD);
        Due.is("run(0, 1)", shop.run(0, 1), 0);
        onlyTallied(shop, 0, 0, name(step));
        looksUntouched(shop, name(step));
    }

    private static void onlyTallied(CycleShop shop, int reason, int times, String name) {
        for (int other = 1; other <= 7; other++) {
            Due.is("tally(" + other + ") behind " + name, shop.tally(other), other == reason ? times : 0);
        }
    }

    private static void looksUntouched(CycleShop shop, String name) {
        List<Long> got = looks(shop);
        List<Long> due = looks(fullShop());
        for (int i = 0; i < due.size(); i++) {
            Due.is("look " + i + " behind " + name, got.get(i), due.get(i));
        }
    }

    /** All that can be told from an object; what only a step can tell (lengths, racks for discs, excuses) comes last. */
    private static List<Long> looks(CycleShop shop) {
        List<Long> looks = new ArrayList<>();
        for (int a = 0; a < 4; a++) {
            for (int what = 0; what < 8; what++) {
                looks.add((long) shop.stand(a, what));
            }
            for (int i = 0; i < 4; i++) {
                looks.add((long) shop.basket(a, i));
                looks.add((long) shop.rack(a, i));
                for (int j = 0; j < 4; j++) {
                    looks.add((long) shop.grid(a, i, j));
                }
            }
            for (int b = 0; b < 4; b++) {
                looks.add(shop.act(10, a, b, 1));
            }
            looks.add(shop.act(16, a, 1, 0));
            looks.add(shop.act(13, a, 0, 0));
            looks.add(shop.act(6, a, 7, 0));
        }
        return looks;
    }
}
