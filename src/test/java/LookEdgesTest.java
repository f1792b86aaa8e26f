/** Promises 1 and 9 to 12, and the 512 calls: a method for each sentence that names a boundary case. */
public final class LookEdgesTest {
    private static final int BUILD = 0, STRIP = 1, FIT = 2, TRUE = 3, LIGHT = 5, SHINE = 6;
    private static final int BASKET = 7, RACK = 8, GRID = 9, LONG = 10, PUT = 11, ADD = 12, HANG = 13, RAISE = 16;
    private static final int LEAST = Integer.MIN_VALUE, MOST = Integer.MAX_VALUE;
    private static final int[] NOT_0_TO_3 = {-1, 4, -2, 5, LEAST, MOST};

    public static void main(String[] args) {
        allIsNone();
        jobsWithoutSteps();
        standWithoutBike();
        standWithoutWheels();
        standSpokesAndTurns();
        standHangsAtSomePlaceOfSomeRack();
        standHangsInTwoRacks();
        standHangsNoMore();
        standRearNeverHangs();
        standCharge();
        standIsBad();
        basketHasNoneSuch();
        rackHasNone();
        rackTellsDiscs();
        gridHasNoneSuch();
        gridRowsAndColumns();
        looksChangeNothing();
        all512Calls();
        Due.end();
    }

    private static void allIsNone() {
        Due.sentence("a new object: all is none");
        for (int a = 0; a < 4; a++) {
            CycleShop shop = new CycleShop();
            Due.stand(shop, a, 0, 0, 0, 0, 0, 0, 0, 0);
            for (int i = 0; i < 12; i++) {
                Due.is("basket(" + a + ", " + i + ")", shop.basket(a, i), 0);
                Due.is("rack(" + a + ", " + i + ")", shop.rack(a, i), LEAST);
                Due.is("grid(" + a + ", " + i + ", " + i + ")", shop.grid(a, i, i), 0);
            }
            for (int reason = 1; reason <= 7; reason++) {
                Due.is("tally(" + reason + ")", shop.tally(reason), 0);
            }
            for (int b = 0; b <= 3; b++) {
                Due.fails(shop, LONG, a, b, 0, Due.NOTHING);
            }
            for (int kind = FIT; kind <= SHINE; kind++) {
                Due.fails(shop, kind, a, 0, 0, Due.NOTHING);
            }
            Due.fails(shop, RAISE, a, 1, 0, Due.NOTHING);
        }
    }

    private static void jobsWithoutSteps() {
        Due.sentence("a new object: JOBS without STEPS");
        for (int job = 0; job < 4; job++) {
            CycleShop shop = new CycleShop();
            Due.is("clear(" + job + ")", shop.clear(job), 0);
            Due.is("run(" + job + ", 0)", shop.run(job, 0), 0);
            Due.step(shop, job, new int[] {BUILD, 0, 1, 0}, CycleShop.NONE, 0);
        }
    }

    private static void standWithoutBike() {
        Due.sentence("stand: where there is none such: 0 (no BIKE)");
        CycleShop shop = new CycleShop();
        Due.act(shop, RACK, 0, 2, 0, 2);
        Due.stand(shop, 0, 0, 0, 0, 0, 0, 0, 0, 0);
        Due.act(shop, BUILD, 0, 7, 0, 7);
        Due.act(shop, FIT, 0, 0, 8, 8);
        Due.act(shop, FIT, 0, 1, 9, 9);
        Due.act(shop, TRUE, 0, 0, 0, 8);
        Due.act(shop, TRUE, 0, 1, 0, 9);
        Due.act(shop, HANG, 0, 0, 0, 1);
        Due.act(shop, LIGHT, 0, 1, 0, 1);
        Due.stand(shop, 0, 1, 7, 8, 9, 1, 1, 1, -1);
        Due.act(shop, STRIP, 0, 0, 0, 1);
        Due.stand(shop, 0, 0, 0, 0, 0, 0, 0, 0, 0);
    }

    private static void standWithoutWheels() {
        Due.sentence("stand: where there is none such: 0 (no FRONT, no REAR, no LAMP)");
        CycleShop shop = new CycleShop();
        Due.act(shop, BUILD, 0, 0, 0, 0);
        Due.act(shop, RACK, 0, 2, 0, 2);
        Due.act(shop, HANG, 0, 0, 0, 1);
        Due.stand(shop, 0, 1, 0, 0, 0, 0, 0, 0, 0);
        Due.act(shop, FIT, 0, 0, 8, 8);
        Due.act(shop, TRUE, 0, 0, 0, 8);
        Due.stand(shop, 0, 1, 0, 8, 0, 1, 0, 0, 0);
        Due.act(shop, FIT, 0, 1, 9, 9);
        Due.act(shop, TRUE, 0, 1, 0, 9);
        Due.act(shop, FIT, 0, 0, 0, 0);
        Due.stand(shop, 0, 1, 0, 0, 9, 0, 1, 0, 0);
    }

    private static void standSpokesAndTurns() {
        Due.sentence("stand: 2, 3 SPOKES of FRONT, REAR, 4, 5 their TURNS");
        CycleShop shop = new CycleShop();
        Due.act(shop, BUILD, 3, LEAST, 0, LEAST);
        Due.act(shop, FIT, 3, 0, LEAST, LEAST);
        Due.act(shop, FIT, 3, 1, MOST, MOST);
        Due.stand(shop, 3, 1, LEAST, LEAST, MOST - 100, 0, 0, 0, 0);
        Due.act(shop, TRUE, 3, 1, 0, MOST - 99);
        Due.stand(shop, 3, 1, LEAST, LEAST, MOST - 100, 0, 1, 0, 0);
        Due.act(shop, FIT, 3, 0, 100, 100);
        Due.act(shop, TRUE, 3, 0, 0, 1);
        Due.act(shop, TRUE, 3, 0, 0, 1);
        Due.stand(shop, 3, 1, LEAST, 0, MOST - 100, 2, 1, 0, 0);
    }

    private static void standHangsAtSomePlaceOfSomeRack() {
        Due.sentence("stand: 6 whether they hang at some place of some RACK, too (bit 0 FRONT)");
        for (int rack = 0; rack < 4; rack++) {
            for (int place : new int[] {0, 1, 10, 11}) {
                CycleShop shop = new CycleShop();
                Due.act(shop, BUILD, 2, 7, 0, 7);
                Due.act(shop, FIT, 2, 0, 8, 8);
                Due.act(shop, BUILD, 1, 7, 0, 7);
                Due.act(shop, FIT, 1, 0, 8, 8);
                Due.act(shop, RACK, rack, 12, 0, 12);
                Due.is("stand(2, 6)", shop.stand(2, 6), 0);
                Due.act(shop, HANG, rack, place, 2, 1);
                Due.is("stand(2, 6)", shop.stand(2, 6), 1);
                Due.is("stand(1, 6), alike but another one", shop.stand(1, 6), 0);
            }
        }
    }

    private static void standHangsInTwoRacks() {
        Due.sentence("stand: 6 whether they hang at some place of some RACK, until the last one is gone");
        CycleShop shop = new CycleShop();
        Due.act(shop, BUILD, 0, 7, 0, 7);
        Due.act(shop, FIT, 0, 0, 108, 108);
        Due.act(shop, RACK, 0, 2, 0, 2);
        Due.act(shop, RACK, 3, 2, 1, 2);
        Due.act(shop, HANG, 0, 0, 0, 1);
        Due.act(shop, HANG, 0, 1, 0, 1);
        Due.is("stand(0, 6), at two places of a rack", shop.stand(0, 6), 1);
        Due.act(shop, HANG, 3, 1, 0, 1);
        Due.is("stand(0, 6)", shop.stand(0, 6), 1);
        Due.act(shop, RACK, 0, 2, 0, 2);
        Due.is("stand(0, 6)", shop.stand(0, 6), 1);
        Due.act(shop, RACK, 3, 0, 0, 0);
        Due.is("stand(0, 6)", shop.stand(0, 6), 0);
    }

    private static void standHangsNoMore() {
        Due.sentence("stand: 6, where another one hangs there now, or another one is FRONT");
        CycleShop shop = new CycleShop();
        Due.act(shop, RACK, 0, 1, 0, 1);
        for (int a = 0; a < 2; a++) {
            Due.act(shop, BUILD, a, 7, 0, 7);
            Due.act(shop, FIT, a, 0, 8, 8);
            Due.act(shop, HANG, 0, 0, a, 1);
        }
        Due.is("stand(0, 6)", shop.stand(0, 6), 0);
        Due.is("stand(1, 6)", shop.stand(1, 6), 1);
        Due.act(shop, FIT, 1, 0, 8, 8);
        Due.is("stand(1, 6)", shop.stand(1, 6), 0);
        Due.act(shop, FIT, 0, 0, 0, 0);
        Due.act(shop, HANG, 0, 0, 0, 1);
        Due.is("stand(0, 6), none hangs", shop.stand(0, 6), 0);
        Due.is("stand(1, 6)", shop.stand(1, 6), 0);
    }

    private static void standRearNeverHangs() {
        Due.sentence("stand: 6 (bit 1 REAR), which HANG leaves where it is");
        CycleShop shop = new CycleShop();
        Due.act(shop, BUILD, 0, 7, 0, 7);
        Due.act(shop, RACK, 0, 2, 0, 2);
        Due.act(shop, FIT, 0, 1, 8, 8);
        Due.act(shop, HANG, 0, 0, 0, 1);
        Due.is("stand(0, 6), without FRONT", shop.stand(0, 6), 0);
        Due.act(shop, FIT, 0, 0, 8, 8);
        Due.act(shop, HANG, 0, 0, 0, 1);
        Due.is("stand(0, 6), FRONT alone", shop.stand(0, 6), 1);
    }

    private static void standCharge() {
        Due.sentence("stand: 7 CHARGE of a BATTERY (a DYNAMO: -1)");
        CycleShop shop = new CycleShop();
        Due.act(shop, BUILD, 0, 7, 0, 7);
        for (int charge : new int[] {0, 1, -1, LEAST, MOST}) {
            Due.act(shop, LIGHT, 0, 2, charge, 2);
            Due.is("stand(0, 7)", shop.stand(0, 7), charge);
            Due.act(shop, LIGHT, 0, 1, charge, 1);
            Due.is("stand(0, 7)", shop.stand(0, 7), -1);
            Due.act(shop, LIGHT, 0, 0, charge, 0);
            Due.is("stand(0, 7)", shop.stand(0, 7), 0);
        }
    }

    private static void standIsBad() {
        Due.sentence("stand: the least int: BAD");
        CycleShop shop = new CycleShop();
        Due.act(shop, BUILD, 0, 7, 0, 7);
        for (int what : new int[] {-1, 8, -2, 9, LEAST, MOST}) {
            for (int a = -1; a <= 4; a++) {
                Due.is("stand(" + a + ", " + what + ")", shop.stand(a, what), LEAST);
            }
        }
        for (int a : NOT_0_TO_3) {
            for (int what = 0; what < 8; what++) {
                Due.is("stand(" + a + ", " + what + ")", shop.stand(a, what), LEAST);
            }
        }
    }

    private static void basketHasNoneSuch() {
        Due.sentence("basket: 0: there is none such");
        for (int size : new int[] {0, 1, 11, 12}) {
            CycleShop shop = new CycleShop();
            Due.act(shop, BASKET, 0, 12, 0, 12);
            for (int i = 0; i < 12; i++) {
                Due.act(shop, PUT, 0, i, 5, 0);
            }
            Due.act(shop, BASKET, 0, size, 0, size);
            for (int i = 0; i < size; i++) {
                Due.act(shop, PUT, 0, i, 60 + i, 0);
            }
            for (int i = 0; i < 14; i++) {
                Due.is("basket(0, " + i + ")", shop.basket(0, i), i < size ? 60 + i : 0);
            }
            for (int i : new int[] {-1, LEAST, MOST}) {
                Due.is("basket(0, " + i + ")", shop.basket(0, i), 0);
            }
            for (int a : NOT_0_TO_3) {
                Due.is("basket(" + a + ", 0)", shop.basket(a, 0), 0);
            }
            Due.is("basket(1, 0)", shop.basket(1, 0), 0);
        }
    }

    private static void rackHasNone() {
        Due.sentence("rack: the least int: there is none");
        for (int size : new int[] {0, 1, 11, 12}) {
            CycleShop shop = new CycleShop();
            Due.act(shop, BUILD, 0, 7, 0, 7);
            Due.act(shop, FIT, 0, 0, 108, 108);
            Due.act(shop, RACK, 0, 12, 0, 12);
            for (int i = 0; i < 12; i++) {
                Due.act(shop, HANG, 0, i, 0, 1);
            }
            Due.act(shop, RACK, 0, size, 0, size);
            for (int i = 0; i < size; i += 2) {
                Due.act(shop, HANG, 0, i, 0, 1);
            }
            for (int i = 0; i < 14; i++) {
                Due.is("rack(0, " + i + ")", shop.rack(0, i), i < size && i % 2 == 0 ? 1008 : LEAST);
            }
            for (int i : new int[] {-1, LEAST, MOST}) {
                Due.is("rack(0, " + i + ")", shop.rack(0, i), LEAST);
            }
            for (int a : NOT_0_TO_3) {
                Due.is("rack(" + a + ", 0)", shop.rack(a, 0), LEAST);
            }
            Due.is("rack(1, 0)", shop.rack(1, 0), LEAST);
        }
    }

    private static void rackTellsDiscs() {
        Due.sentence("rack: SPOKES of what hangs at place i, and 1000 more of a DISC");
        CycleShop shop = new CycleShop();
        Due.act(shop, BUILD, 0, 7, 0, 7);
        Due.act(shop, RACK, 0, 12, 0, 12);
        int[] fitted = {1, 99, 100, 101, -1, LEAST + 1, MOST - 900};
        int[] due = {1, 99, 1000, 1001, -1, LEAST + 1, MOST};
        for (int i = 0; i < fitted.length; i++) {
            Due.act(shop, FIT, 0, 0, fitted[i], fitted[i]);
            Due.act(shop, HANG, 0, i, 0, 1);
        }
        for (int i = 0; i < fitted.length; i++) {
            Due.is("rack(0, " + i + ")", shop.rack(0, i), due[i]);
        }
    }

    private static void gridHasNoneSuch() {
        Due.sentence("grid: 0: there is none such");
        int[][] sizes = {{0, 0}, {0, 12}, {12, 0}, {1, 1}, {3, 2}, {2, 3}};
        for (int[] size : sizes) {
            CycleShop shop = new CycleShop();
            Due.act(shop, GRID, 0, 4, 4, 4);
            for (int i = 0; i < 16; i++) {
                Due.act(shop, ADD, 0, i / 4, i % 4, 1);
            }
            Due.act(shop, GRID, 0, size[0], size[1], size[0]);
            for (int i = 0; i < size[0]; i++) {
                for (int j = 0; j < size[1]; j++) {
                    Due.act(shop, ADD, 0, i, j, 1);
                }
            }
            for (int i = -1; i < 13; i++) {
                for (int j = -1; j < 13; j++) {
                    boolean isThere = i >= 0 && i < size[0] && j >= 0 && j < size[1];
                    Due.is("grid(0, " + i + ", " + j + ")", shop.grid(0, i, j), isThere ? 1 : 0);
                }
            }
            for (int far : new int[] {LEAST, MOST}) {
                Due.is("grid(0, " + far + ", 0)", shop.grid(0, far, 0), 0);
                Due.is("grid(0, 0, " + far + ")", shop.grid(0, 0, far), 0);
            }
            for (int a : NOT_0_TO_3) {
                Due.is("grid(" + a + ", 0, 0)", shop.grid(a, 0, 0), 0);
            }
            Due.is("grid(1, 0, 0)", shop.grid(1, 0, 0), 0);
        }
    }

    private static void gridRowsAndColumns() {
        Due.sentence("grid: number j in row i");
        CycleShop shop = new CycleShop();
        Due.act(shop, GRID, 3, 12, 12, 12);
        Due.act(shop, ADD, 3, 11, 0, 1);
        Due.act(shop, ADD, 3, 0, 11, 1);
        Due.act(shop, ADD, 3, 0, 11, 2);
        Due.act(shop, ADD, 3, 11, 11, 1);
        for (int i = 0; i < 12; i++) {
            for (int j = 0; j < 12; j++) {
                int due = i == 0 && j == 11 ? 2 : i == 11 && (j == 0 || j == 11) ? 1 : 0;
                Due.is("grid(3, " + i + ", " + j + ")", shop.grid(3, i, j), due);
            }
        }
    }

    private static void looksChangeNothing() {
        Due.sentence("told, sum, tally, stand, basket, rack, grid: what they answer is all that they do");
        CycleShop shop = new CycleShop();
        Due.act(shop, BUILD, 0, 7, 0, 7);
        Due.act(shop, FIT, 0, 0, 108, 108);
        Due.act(shop, LIGHT, 0, 2, 3, 2);
        Due.act(shop, BASKET, 0, 1, 0, 1);
        Due.act(shop, PUT, 0, 0, 9, 0);
        Due.act(shop, RACK, 0, 1, 0, 1);
        Due.act(shop, HANG, 0, 0, 0, 1);
        Due.act(shop, GRID, 0, 1, 1, 1);
        Due.act(shop, ADD, 0, 0, 0, 1);
        Due.step(shop, 0, new int[] {RAISE, 0, 1, 0}, 0, 0);
        Due.is("run(0, 1)", shop.run(0, 1), 0);
        for (int time = 0; time < 3; time++) {
            Due.stand(shop, 0, 1, 7, 8, 0, 0, 0, 1, 3);
            Due.is("basket(0, 0)", shop.basket(0, 0), 9);
            Due.is("rack(0, 0)", shop.rack(0, 0), 1008);
            Due.is("grid(0, 0, 0)", shop.grid(0, 0, 0), 1);
            Due.told(shop, 0, 2, Due.NOTHING, 0, 1);
            Due.is("sum()", shop.sum(), 0);
            Due.is("tally(1)", shop.tally(Due.NOTHING), 2);
            Due.is("tally(9)", shop.tally(9), CycleShop.BAD);
            Due.is("stand(4, 0)", shop.stand(4, 0), LEAST);
        }
    }

    /** The dearest use: every second run has 15 steps that fail, and makes 16 new wheels. */
    private static void all512Calls() {
        Due.sentence("an object is used for at most 512 calls");
        CycleShop shop = new CycleShop();
        int calls = 2;
        Due.act(shop, BUILD, 0, 7, 0, 7);
        Due.act(shop, GRID, 0, 1, 1, 1);
        for (int i = 0; i < 15; i++) {
            Due.step(shop, 0, new int[] {RAISE, 0, 1, 0}, 15, i);
            calls++;
        }
        Due.step(shop, 0, new int[] {FIT, 0, 0, MOST}, 15, 15);
        Due.step(shop, 1, new int[] {ADD, 0, 0, 0}, CycleShop.NONE, 0);
        calls += 2;
        int turn = 0;
        while (calls < 505) {
            turn++;
            Due.is("run(0, 0)", shop.run(0, 0), 16);
            Due.is("run(1, 0)", shop.run(1, 0), 1);
            Due.is("sum()", shop.sum(), turn);
            calls += 3;
        }
        Due.is("tally(1)", shop.tally(Due.NOTHING), 15 * turn);
        Due.is("grid(0, 0, 0)", shop.grid(0, 0, 0), turn);
        Due.is("stand(0, 2)", shop.stand(0, 2), MOST - 100);
        Due.is("run(0, 1)", shop.run(0, 1), 16);
        calls += 4;
        while (calls < 512) {
            Due.is("told(4)", shop.told(4), 15);
            calls++;
        }
    }
}
