/** Promises 3 to 8: step, clear, run, told, sum, tally. */
public final class JobTest {
    private static final int[] BUILD_5 = {0, 1, 5, 0};
    private static final int[] TRUE_FRONT = {3, 1, 0, 0};
    private static final int[] FIT_FRONT = {2, 1, 0, 20};
    private static final int[] RAISE = {16, 2, 1, 0};
    private static final int[] BE_LATE = {15, 2, 1, 0};
    private static final int[] NO_RAISE = {16, 2, 0, 0};
    private static final int NONE = CycleShop.NONE, BAD = CycleShop.BAD, FULL = CycleShop.FULL;
    private static final int LEAST = Integer.MIN_VALUE, MOST = Integer.MAX_VALUE;

    public static void main(String[] args) {
        steps();
        badSteps();
        clear();
        runEndsBehindFailure();
        runGoesOnPastFailure();
        steadIsDone();
        steadOfAStead();
        steadThatIsNotThere();
        steadThatIsItself();
        steadAheadAndBehind();
        badRunsChangeNothing();
        sums();
        tallies();
        longestRun();
        Due.end();
    }

    private static void steps() {
        CycleShop shop = new CycleShop();
        for (int job = 0; job < 4; job++) {
            for (int i = 0; i < 16; i++) {
                Due.step(shop, job, NO_RAISE, i == 0 ? NONE : i, i);
            }
            Due.step(shop, job, NO_RAISE, 0, FULL);
            Due.step(shop, job, NO_RAISE, 16, BAD);
            Due.step(shop, job, new int[] {17, 0, 0, 0}, NONE, BAD);
        }
        Due.is("run(3, 0)", shop.run(3, 0), 16);
        Due.is("clear(3)", shop.clear(3), 16);
        Due.step(shop, 3, NO_RAISE, NONE, 0);
        Due.step(shop, 2, NO_RAISE, NONE, FULL);
    }

    private static void badSteps() {
        CycleShop shop = new CycleShop();
        for (int number : new int[] {-1, 4, LEAST, MOST}) {
            Due.step(shop, number, NO_RAISE, NONE, BAD);
            Due.step(shop, 0, new int[] {0, number, 0, 0}, NONE, BAD);
            Due.step(shop, 0, new int[] {13, 0, 0, number}, NONE, BAD);
        }
        for (int stead : new int[] {-2, 16, LEAST, MOST}) {
            Due.step(shop, 0, NO_RAISE, stead, BAD);
        }
        for (int kind : new int[] {-1, 17, LEAST, MOST}) {
            Due.step(shop, 0, new int[] {kind, 0, 0, 0}, NONE, BAD);
        }
        for (int kind = 7; kind <= 9; kind++) {
            Due.step(shop, 0, new int[] {kind, 0, 13, 0}, NONE, BAD);
        }
        Due.step(shop, 0, new int[] {9, 0, 0, 13}, NONE, BAD);
        Due.is("clear(0)", shop.clear(0), 0);
        Due.step(shop, 0, new int[] {7, 0, -1, 13}, 15, 0);
        Due.step(shop, 0, new int[] {8, 0, 12, 13}, 0, 1);
        Due.step(shop, 0, new int[] {9, 0, 12, 12}, NONE, 2);
        Due.fails(shop, 10, 0, 2, 0, Due.NOTHING);
    }

    private static void clear() {
        CycleShop shop = new CycleShop();
        for (int job : new int[] {-1, 4, LEAST, MOST}) {
            Due.is("clear(" + job + ")", shop.clear(job), BAD);
        }
        Due.step(shop, 1, BUILD_5, NONE, 0);
        Due.step(shop, 1, BUILD_5, NONE, 1);
        Due.step(shop, 2, BUILD_5, NONE, 0);
        Due.is("run(1, 0)", shop.run(1, 0), 2);
        Due.is("clear(1)", shop.clear(1), 2);
        Due.is("clear(1)", shop.clear(1), 0);
        Due.told(shop, 2, 0, 0, NONE, 0);
        Due.is("sum()", shop.sum(), 10);
        Due.stand(shop, 1, 1, 5);
        Due.step(shop, 1, RAISE, 1, 0);
        Due.is("run(1, 1)", shop.run(1, 1), 0);
        Due.told(shop, 0, 1, Due.NOTHING, 0, 0);
        Due.is("clear(2)", shop.clear(2), 1);
    }

    private static void runEndsBehindFailure() {
        CycleShop shop = new CycleShop();
        Due.step(shop, 0, BUILD_5, NONE, 0);
        Due.step(shop, 0, TRUE_FRONT, NONE, 1);
        Due.step(shop, 0, FIT_FRONT, NONE, 2);
        Due.is("run(0, 0)", shop.run(0, 0), 1);
        Due.told(shop, 1, 1, Due.NOTHING, 1, 0);
        Due.is("sum()", shop.sum(), 5);
        Due.stand(shop, 1, 1, 5, 0);
    }

    private static void runGoesOnPastFailure() {
        CycleShop shop = new CycleShop();
        Due.step(shop, 0, BUILD_5, NONE, 0);
        Due.step(shop, 0, TRUE_FRONT, NONE, 1);
        Due.step(shop, 0, FIT_FRONT, NONE, 2);
        Due.is("run(0, 1)", shop.run(0, 1), 2);
        Due.told(shop, 2, 1, Due.NOTHING, 1, 0);
        Due.is("sum()", shop.sum(), 25);
        Due.stand(shop, 1, 1, 5, 20);
    }

    private static void steadIsDone() {
        CycleShop shop = new CycleShop();
        Due.step(shop, 3, FIT_FRONT, 2, 0);
        Due.step(shop, 3, FIT_FRONT, NONE, 1);
        Due.step(shop, 3, BUILD_5, 0, 2);
        Due.step(shop, 3, TRUE_FRONT, 1, 3);
        Due.step(shop, 3, TRUE_FRONT, 1, 4);
        Due.is("run(3, 0)", shop.run(3, 0), 5);
        Due.told(shop, 5, 2, Due.NOTHING, 3, 2);
        Due.is("sum()", shop.sum(), 5 + 20 + 5 + 20 + 20);
    }

    private static void steadOfAStead() {
        CycleShop shop = new CycleShop();
        Due.step(shop, 0, TRUE_FRONT, 1, 0);
        Due.step(shop, 0, FIT_FRONT, 2, 1);
        Due.step(shop, 0, BUILD_5, NONE, 2);
        Due.is("run(0, 0)", shop.run(0, 0), 0);
        Due.told(shop, 0, 2, Due.NOTHING, 1, 1);
        Due.stand(shop, 1, 0);
        Due.is("run(0, 1)", shop.run(0, 1), 2);
        Due.told(shop, 2, 3, Due.NOTHING, 1, 2);
    }

    private static void steadThatIsNotThere() {
        CycleShop shop = new CycleShop();
        Due.step(shop, 0, TRUE_FRONT, 2, 0);
        Due.step(shop, 0, NO_RAISE, NONE, 1);
        Due.is("run(0, 0)", shop.run(0, 0), 0);
        Due.told(shop, 0, 1, Due.NOTHING, 0, 0);
        Due.is("run(0, 1)", shop.run(0, 1), 1);
        Due.told(shop, 1, 1, Due.NOTHING, 0, 0);
        Due.step(shop, 0, BUILD_5, NONE, 2);
        Due.is("run(0, 0)", shop.run(0, 0), 3);
        Due.told(shop, 3, 1, Due.NOTHING, 0, 1);
    }

    private static void steadThatIsItself() {
        CycleShop shop = new CycleShop();
        Due.step(shop, 0, RAISE, 0, 0);
        Due.step(shop, 0, NO_RAISE, 1, 1);
        Due.is("run(0, 0)", shop.run(0, 0), 0);
        Due.told(shop, 0, 2, Due.NOTHING, 0, 1);
        Due.is("run(0, 1)", shop.run(0, 1), 1);
        Due.told(shop, 1, 2, Due.NOTHING, 0, 1);
        Due.is("tally(1)", shop.tally(1), 4);
    }

    private static void steadAheadAndBehind() {
        CycleShop shop = new CycleShop();
        Due.step(shop, 0, BE_LATE, NONE, 0);
        Due.step(shop, 0, RAISE, 3, 1);
        Due.step(shop, 0, new int[] {7, 0, -1, 0}, 1, 2);
        Due.step(shop, 0, new int[] {15, 2, 7, 0}, NONE, 3);
        Due.is("run(0, 0)", shop.run(0, 0), 2);
        Due.told(shop, 2, 3, Due.BROKEN, 1, 2);
        Due.is("sum()", shop.sum(), 8);
        Due.is("run(0, 1)", shop.run(0, 1), 3);
        Due.told(shop, 3, 3, Due.BROKEN, 1, 2);
        Due.is("sum()", shop.sum(), 15);
        Due.is("tally(2)", shop.tally(2), 2);
        Due.is("tally(6)", shop.tally(6), 2);
        Due.is("tally(7)", shop.tally(7), 2);
    }

    private static void badRunsChangeNothing() {
        CycleShop shop = new CycleShop();
        Due.step(shop, 0, BUILD_5, NONE, 0);
        Due.step(shop, 0, TRUE_FRONT, NONE, 1);
        Due.is("run(0, 0)", shop.run(0, 0), 1);
        for (int job : new int[] {-1, 4, LEAST, MOST}) {
            Due.is("run(" + job + ", 0)", shop.run(job, 0), BAD);
        }
        for (int way : new int[] {-1, 2, LEAST, MOST}) {
            Due.is("run(0, " + way + ")", shop.run(0, way), BAD);
        }
        for (int what : new int[] {-1, 5, LEAST, MOST}) {
            Due.is("told(" + what + ")", shop.told(what), BAD);
        }
        Due.fails(shop, 3, 1, 0, 0, Due.NOTHING);
        Due.act(shop, 0, 1, 50, 0, 50);
        Due.told(shop, 1, 1, Due.NOTHING, 1, 0);
        Due.is("sum()", shop.sum(), 5);
        Due.is("tally(1)", shop.tally(1), 2);
        Due.is("run(1, 0)", shop.run(1, 0), 0);
        Due.told(shop, 0, 0, 0, NONE, 0);
        Due.is("sum()", shop.sum(), 0);
    }

    private static void sums() {
        CycleShop shop = new CycleShop();
        for (int i = 0; i < 16; i++) {
            Due.step(shop, 0, new int[] {0, 0, MOST, 0}, NONE, i);
            Due.step(shop, 1, new int[] {0, 0, LEAST, 0}, NONE, i);
        }
        Due.is("run(0, 0)", shop.run(0, 0), 16);
        Due.is("sum()", shop.sum(), 16L * MOST);
        Due.is("run(1, 0)", shop.run(1, 0), 16);
        Due.told(shop, 16, 0, 0, NONE, 0);
        Due.is("sum()", shop.sum(), 16L * LEAST);
    }

    private static void tallies() {
        CycleShop shop = new CycleShop();
        for (int reason : new int[] {0, 8, -1, LEAST, MOST}) {
            Due.is("tally(" + reason + ")", shop.tally(reason), BAD);
        }
        int[][] setUp = {{0, 0, 0, 0}, {2, 0, 0, 9}, {8, 0, 2, 0}, {8, 1, 2, 1}, {13, 0, 0, 0}, {15, 0, 1, 0}, {15, 1, 2, 0}};
        for (int[] step : setUp) {
            shop.act(step[0], step[1], step[2], step[3]);
        }
        int[][] failing = {{3, 3, 0, 0}, {7, 0, -1, 0}, {14, 0, 2, 0}, {13, 1, 0, 0}, {14, 0, 0, 0}, {16, 0, 1, 0}, {16, 1, 1, 0}};
        for (int reason = 1; reason <= 7; reason++) {
            int[] step = failing[reason - 1];
            for (int i = 0; i < reason; i++) {
                Due.fails(shop, step[0], step[1], step[2], step[3], reason);
            }
            Due.step(shop, 0, step, NONE, reason - 1);
        }
        Due.is("run(0, 1)", shop.run(0, 1), 0);
        Due.told(shop, 0, 7, Due.BROKEN, 6, 0);
        for (int reason = 1; reason <= 7; reason++) {
            Due.is("tally(" + reason + ")", shop.tally(reason), reason + 1);
        }
    }

    private static void longestRun() {
        CycleShop shop = new CycleShop();
        for (int i = 0; i < 16; i++) {
            Due.step(shop, 0, RAISE, 15, i);
        }
        Due.is("run(0, 1)", shop.run(0, 1), 0);
        Due.told(shop, 0, 32, Due.NOTHING, 15, 16);
        Due.is("tally(1)", shop.tally(1), 32);
        Due.is("run(0, 0)", shop.run(0, 0), 0);
        Due.told(shop, 0, 2, Due.NOTHING, 15, 1);
    }
}
