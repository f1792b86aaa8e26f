/** Steps of the kinds 7 to 12: a method for each sentence of "Terms" that names a boundary case. */
public final class RowEdgesTest {
    private static final int BUILD = 0, FIT = 2, BASKET = 7, RACK = 8, GRID = 9, LONG = 10, PUT = 11, ADD = 12;
    private static final int HANG = 13, BALANCE = 14;
    private static final int LEAST = Integer.MIN_VALUE, MOST = Integer.MAX_VALUE;
    private static final int[] NOT_0_TO_2 = {3, -1, 4, LEAST, MOST};

    public static void main(String[] args) {
        sizesFrom0To12();
        sizesBelow0();
        sizesAbove12AreBad();
        newRowsAreEmpty();
        rowsAreFourEach();
        refusedSizesLeaveTheOldOne();
        rackForDiscsByOddC();
        longByB();
        longOfNone();
        longOfARow();
        putAtTheEnds();
        putOutside();
        putWithoutBasket();
        addAtTheEnds();
        addOutside();
        addWithoutGrid();
        Due.end();
    }

    private static CycleShop withWheel(int c) {
        CycleShop shop = new CycleShop();
        Due.act(shop, BUILD, 0, 70, 0, 70);
        Due.act(shop, FIT, 0, 0, c, c);
        return shop;
    }

    private static void sizesFrom0To12() {
        Due.sentence("(b, of 9 also c, 12 at most)");
        CycleShop shop = new CycleShop();
        for (int size = 0; size <= 12; size++) {
            Due.act(shop, BASKET, 3, size, MOST, size);
            Due.act(shop, LONG, 3, 0, 0, size);
            Due.act(shop, RACK, 3, size, MOST, size);
            Due.act(shop, LONG, 3, 1, 0, size);
            Due.act(shop, GRID, 3, size, 12 - size, size);
            Due.act(shop, LONG, 3, 2, 0, size);
            if (size > 0) {
                Due.act(shop, LONG, 3, 3, size - 1, 12 - size);
            }
        }
        Due.act(shop, GRID, 3, 12, 12, 12);
        Due.act(shop, LONG, 3, 3, 11, 12);
        Due.act(shop, GRID, 3, 0, 0, 0);
        Due.act(shop, LONG, 3, 2, 0, 0);
    }

    private static void sizesBelow0() {
        Due.sentence("SIZE: b (of 9 also c) is below 0");
        CycleShop shop = new CycleShop();
        for (int size : new int[] {-1, -2, -12, LEAST}) {
            Due.fails(shop, BASKET, 0, size, 0, Due.SIZE);
            Due.fails(shop, RACK, 0, size, 0, Due.SIZE);
            Due.fails(shop, RACK, 0, size, 1, Due.SIZE);
            for (int other : new int[] {0, 1, 12, -1, LEAST}) {
                Due.fails(shop, GRID, 0, size, other, Due.SIZE);
                Due.fails(shop, GRID, 0, other, size, Due.SIZE);
            }
            Due.act(shop, BASKET, 1, 1, size, 1);
            Due.act(shop, RACK, 1, 1, size, 1);
        }
        for (int b = 0; b <= 3; b++) {
            Due.fails(shop, LONG, 0, b, 0, Due.NOTHING);
        }
    }

    private static void sizesAbove12AreBad() {
        Due.sentence("BAD: sizes above 12");
        CycleShop shop = new CycleShop();
        for (int size : new int[] {13, 14, MOST}) {
            Due.act(shop, BASKET, 0, size, 0, Due.FAILED);
            Due.act(shop, RACK, 0, size, 0, Due.FAILED);
            Due.act(shop, RACK, 0, size, 1, Due.FAILED);
            for (int other : new int[] {0, 12, 13, -1, LEAST}) {
                Due.act(shop, GRID, 0, size, other, Due.FAILED);
                Due.act(shop, GRID, 0, other, size, Due.FAILED);
            }
            Due.act(shop, BASKET, 1, 1, size, 1);
            Due.act(shop, RACK, 1, 1, size, 1);
        }
        Due.is("tally(2)", shop.tally(Due.SIZE), 0);
        for (int b = 0; b <= 3; b++) {
            Due.fails(shop, LONG, 0, b, 0, Due.NOTHING);
        }
    }

    private static void newRowsAreEmpty() {
        Due.sentence("becomes a new row of b numbers, 0; of b places, empty; b rows of c numbers, 0");
        CycleShop shop = withWheel(8);
        for (int round = 0; round < 2; round++) {
            Due.act(shop, BASKET, 0, 12, 0, 12);
            Due.act(shop, RACK, 0, 12, 0, 12);
            Due.act(shop, GRID, 0, 12, 12, 12);
            for (int i : new int[] {0, 5, 11}) {
                Due.act(shop, PUT, 0, i, 44, 0);
                Due.fails(shop, BALANCE, 0, i, 0, Due.NOTHING);
                Due.act(shop, HANG, 0, i, 0, 1);
                Due.act(shop, ADD, 0, i, 11 - i, 1);
            }
            Due.act(shop, BASKET, 0, 6, 0, 6);
            Due.act(shop, RACK, 0, 6, 0, 6);
            Due.act(shop, GRID, 0, 6, 7, 6);
            Due.is("basket(0, 5)", shop.basket(0, 5), 0);
            Due.is("rack(0, 5)", shop.rack(0, 5), LEAST);
            Due.is("grid(0, 5, 6)", shop.grid(0, 5, 6), 0);
            Due.is("stand(0, 6)", shop.stand(0, 6), 0);
        }
    }

    private static void rowsAreFourEach() {
        Due.sentence("BASKETS 0 .. 3, RACKS 0 .. 3, GRIDS 0 .. 3");
        CycleShop shop = withWheel(8);
        for (int a = 0; a < 4; a++) {
            Due.act(shop, BASKET, a, 1 + a, 0, 1 + a);
            Due.act(shop, RACK, a, 2 + a, 0, 2 + a);
            Due.act(shop, GRID, a, 3 + a, 4 + a, 3 + a);
            Due.act(shop, PUT, a, 0, 50 + a, 0);
            Due.act(shop, ADD, a, 0, 0, 1);
            Due.act(shop, HANG, a, 0, 0, 1);
        }
        Due.act(shop, BASKET, 2, 0, 0, 0);
        Due.act(shop, RACK, 2, 0, 0, 0);
        Due.act(shop, GRID, 2, 0, 0, 0);
        for (int a : new int[] {0, 1, 3}) {
            Due.act(shop, LONG, a, 0, 0, 1 + a);
            Due.act(shop, LONG, a, 1, 0, 2 + a);
            Due.act(shop, LONG, a, 2, 0, 3 + a);
            Due.act(shop, LONG, a, 3, 0, 4 + a);
            Due.is("basket(" + a + ", 0)", shop.basket(a, 0), 50 + a);
            Due.is("rack(" + a + ", 0)", shop.rack(a, 0), 8);
            Due.is("grid(" + a + ", 0, 0)", shop.grid(a, 0, 0), 1);
        }
    }

    private static void refusedSizesLeaveTheOldOne() {
        Due.sentence("SIZE, BAD: then it has done nothing");
        CycleShop shop = withWheel(108);
        Due.act(shop, BASKET, 1, 3, 0, 3);
        Due.act(shop, PUT, 1, 2, 44, 0);
        Due.act(shop, RACK, 1, 3, 1, 3);
        Due.act(shop, HANG, 1, 2, 0, 1);
        Due.act(shop, GRID, 1, 3, 2, 3);
        Due.act(shop, ADD, 1, 2, 1, 1);
        Due.fails(shop, BASKET, 1, -1, 0, Due.SIZE);
        Due.fails(shop, RACK, 1, -1, 0, Due.SIZE);
        Due.fails(shop, GRID, 1, -1, 4, Due.SIZE);
        Due.fails(shop, GRID, 1, 4, -1, Due.SIZE);
        Due.act(shop, BASKET, 1, 13, 0, Due.FAILED);
        Due.act(shop, RACK, 1, 13, 0, Due.FAILED);
        Due.act(shop, GRID, 1, 13, 4, Due.FAILED);
        Due.act(shop, GRID, 1, 4, 13, Due.FAILED);
        Due.is("basket(1, 2)", shop.basket(1, 2), 44);
        Due.is("rack(1, 2)", shop.rack(1, 2), 1008);
        Due.is("grid(1, 2, 1)", shop.grid(1, 2, 1), 1);
        for (int b = 0; b < 3; b++) {
            Due.act(shop, LONG, 1, b, 0, 3);
        }
        Due.act(shop, LONG, 1, 3, 2, 2);
        Due.act(shop, FIT, 0, 0, 8, 8);
        Due.fails(shop, HANG, 1, 0, 0, Due.STORE);
    }

    private static void rackForDiscsByOddC() {
        Due.sentence("RACK: for DISCS alone, c odd");
        CycleShop shop = withWheel(8);
        for (int c : new int[] {1, 3, -1, -3, MOST, LEAST + 1}) {
            Due.act(shop, RACK, 0, 1, c, 1);
            Due.fails(shop, HANG, 0, 0, 0, Due.STORE);
        }
        for (int c : new int[] {0, 2, -2, LEAST, MOST - 1}) {
            Due.act(shop, RACK, 0, 1, c, 1);
            Due.act(shop, HANG, 0, 0, 0, 1);
        }
    }

    private static void longByB() {
        Due.sentence("LONG: BASKET a (b 0), RACK a (b 1), GRID a (b 2), row c of GRID a (other b)");
        CycleShop shop = new CycleShop();
        Due.act(shop, BASKET, 2, 3, 0, 3);
        Due.act(shop, RACK, 2, 4, 0, 4);
        Due.act(shop, GRID, 2, 5, 6, 5);
        for (int c : new int[] {0, 5, -1, LEAST, MOST}) {
            Due.act(shop, LONG, 2, 0, c, 3);
            Due.act(shop, LONG, 2, 1, c, 4);
            Due.act(shop, LONG, 2, 2, c, 5);
        }
        for (int b : NOT_0_TO_2) {
            Due.act(shop, LONG, 2, b, 0, 6);
            Due.act(shop, LONG, 2, b, 4, 6);
        }
    }

    private static void longOfNone() {
        Due.sentence("LONG: NOTHING: there is none, ahead of INDEX");
        for (int made = 0; made < 3; made++) {
            CycleShop shop = new CycleShop();
            Due.act(shop, BASKET + made, 0, 0, 0, 0);
            for (int b = 0; b <= 3; b++) {
                Due.fails(shop, LONG, 1, b, -1, Due.NOTHING);
                if (Math.min(b, 2) != made) {
                    Due.fails(shop, LONG, 0, b, 0, Due.NOTHING);
                    Due.fails(shop, LONG, 0, b, -1, Due.NOTHING);
                }
            }
            Due.act(shop, LONG, 0, made, 0, 0);
        }
    }

    private static void longOfARow() {
        Due.sentence("LONG: INDEX (of c)");
        CycleShop shop = new CycleShop();
        for (int b : NOT_0_TO_2) {
            Due.act(shop, GRID, 0, 0, 12, 0);
            Due.fails(shop, LONG, 0, b, 0, Due.INDEX);
            Due.act(shop, GRID, 0, 12, 0, 12);
            Due.act(shop, LONG, 0, b, 0, 0);
            Due.act(shop, LONG, 0, b, 11, 0);
            Due.act(shop, GRID, 0, 2, 7, 2);
            Due.act(shop, LONG, 0, b, 1, 7);
            for (int c : new int[] {2, -1, 7, LEAST, MOST}) {
                Due.fails(shop, LONG, 0, b, c, Due.INDEX);
            }
        }
    }

    private static void putAtTheEnds() {
        Due.sentence("PUT: number b of BASKET a becomes c: what it was");
        for (int size : new int[] {1, 2, 12}) {
            CycleShop shop = new CycleShop();
            Due.act(shop, BASKET, 0, size, 0, size);
            Due.act(shop, PUT, 0, size - 1, LEAST, 0);
            Due.act(shop, PUT, 0, size - 1, MOST, LEAST);
            Due.act(shop, PUT, 0, size - 1, 0, MOST);
            Due.act(shop, PUT, 0, 0, 5, 0);
            Due.act(shop, PUT, 0, 0, 6, 5);
            Due.is("basket(0, 0)", shop.basket(0, 0), 6);
        }
    }

    private static void putOutside() {
        Due.sentence("PUT: INDEX");
        for (int size : new int[] {0, 1, 2, 12}) {
            CycleShop shop = new CycleShop();
            Due.act(shop, BASKET, 0, size, 0, size);
            for (int b : new int[] {size, -1, 13, LEAST, MOST}) {
                Due.fails(shop, PUT, 0, b, 5, Due.INDEX);
            }
            for (int i = 0; i < 12; i++) {
                Due.is("basket(0, " + i + ")", shop.basket(0, i), 0);
            }
        }
    }

    private static void putWithoutBasket() {
        Due.sentence("PUT: NOTHING, ahead of INDEX");
        CycleShop shop = new CycleShop();
        Due.act(shop, BASKET, 1, 2, 0, 2);
        for (int b : new int[] {0, -1, 12, LEAST, MOST}) {
            Due.fails(shop, PUT, 0, b, 5, Due.NOTHING);
        }
        Due.act(shop, BASKET, 0, 1, 0, 1);
        Due.act(shop, PUT, 0, 0, 5, 0);
    }

    private static void addAtTheEnds() {
        Due.sentence("ADD: number c in row b of GRID a is one more: it");
        CycleShop shop = new CycleShop();
        Due.act(shop, GRID, 0, 12, 12, 12);
        for (int b : new int[] {0, 11}) {
            for (int c : new int[] {0, 11}) {
                Due.act(shop, ADD, 0, b, c, 1);
                Due.act(shop, ADD, 0, b, c, 2);
            }
        }
        Due.act(shop, ADD, 0, 1, 0, 1);
        Due.act(shop, ADD, 0, 0, 1, 1);
        Due.act(shop, GRID, 1, 1, 1, 1);
        Due.act(shop, ADD, 1, 0, 0, 1);
        Due.is("grid(0, 11, 11)", shop.grid(0, 11, 11), 2);
    }

    private static void addOutside() {
        Due.sentence("ADD: INDEX (of b, of c)");
        CycleShop shop = new CycleShop();
        Due.act(shop, GRID, 0, 2, 3, 2);
        for (int b : new int[] {2, -1, 12, LEAST, MOST}) {
            Due.fails(shop, ADD, 0, b, 0, Due.INDEX);
            Due.fails(shop, ADD, 0, b, 3, Due.INDEX);
        }
        for (int c : new int[] {3, -1, 12, LEAST, MOST}) {
            Due.fails(shop, ADD, 0, 0, c, Due.INDEX);
            Due.fails(shop, ADD, 0, 1, c, Due.INDEX);
        }
        for (int i = 0; i < 2; i++) {
            for (int j = 0; j < 3; j++) {
                Due.is("grid(0, " + i + ", " + j + ")", shop.grid(0, i, j), 0);
            }
        }
        Due.act(shop, GRID, 0, 0, 3, 0);
        Due.fails(shop, ADD, 0, 0, 0, Due.INDEX);
        Due.act(shop, GRID, 0, 2, 0, 2);
        Due.fails(shop, ADD, 0, 0, 0, Due.INDEX);
    }

    private static void addWithoutGrid() {
        Due.sentence("ADD: NOTHING, ahead of INDEX");
        CycleShop shop = new CycleShop();
        Due.act(shop, GRID, 1, 1, 1, 1);
        for (int i : new int[] {0, -1, 12, LEAST, MOST}) {
            Due.fails(shop, ADD, 0, i, 0, Due.NOTHING);
            Due.fails(shop, ADD, 0, 0, i, Due.NOTHING);
        }
        Due.act(shop, GRID, 0, 1, 1, 1);
        Due.act(shop, ADD, 0, 0, 0, 1);
    }
}
