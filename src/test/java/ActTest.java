/** Promise 2: every kind of step alone, its answers, its reasons in their order, and what is bad. */
public final class ActTest {
    private static final int BUILD = 0, STRIP = 1, FIT = 2, TRUE = 3, COUNT = 4, LIGHT = 5, SHINE = 6;
    private static final int BASKET = 7, RACK = 8, GRID = 9, LONG = 10, PUT = 11, ADD = 12;
    private static final int HANG = 13, BALANCE = 14, EXCUSE = 15, RAISE = 16;
    private static final int LEAST = Integer.MIN_VALUE, MOST = Integer.MAX_VALUE;

    public static void main(String[] args) {
        buildAndStrip();
        fit();
        trueAndCount();
        lightAndShine();
        basket();
        rack();
        grid();
        hang();
        hangReasonsInOrder();
        balance();
        excuseAndRaise();
        bad();
        Due.end();
    }

    private static void buildAndStrip() {
        CycleShop shop = new CycleShop();
        Due.act(shop, STRIP, 3, 0, 0, 1);
        Due.act(shop, BUILD, 3, LEAST, 0, LEAST);
        Due.act(shop, BUILD, 2, MOST, 0, MOST);
        Due.stand(shop, 3, 1, LEAST, 0, 0, 0, 0, 0, 0);
        Due.act(shop, FIT, 3, 0, 7, 7);
        Due.act(shop, FIT, 3, 1, 8, 8);
        Due.act(shop, LIGHT, 3, 2, 9, 2);
        Due.stand(shop, 3, 1, LEAST, 7, 8, 0, 0, 0, 9);
        Due.act(shop, BUILD, 3, 4, 0, 4);
        Due.stand(shop, 3, 1, 4, 0, 0, 0, 0, 0, 0);
        Due.fails(shop, TRUE, 3, 0, 0, Due.NOTHING);
        Due.fails(shop, SHINE, 3, 0, 0, Due.NOTHING);
        Due.act(shop, FIT, 3, 0, 7, 7);
        Due.act(shop, LIGHT, 3, 1, 0, 1);
        Due.act(shop, STRIP, 3, 5, 5, 1);
        Due.stand(shop, 3, 0, 0, 0, 0, 0, 0, 0, 0);
        Due.fails(shop, COUNT, 3, 0, 0, Due.NOTHING);
        Due.fails(shop, SHINE, 3, 0, 0, Due.NOTHING);
        Due.fails(shop, LIGHT, 3, 0, 0, Due.NOTHING);
        Due.stand(shop, 2, 1, MOST);
    }

    private static void fit() {
        CycleShop shop = new CycleShop();
        Due.fails(shop, FIT, 1, 0, 0, Due.NOTHING);
        Due.act(shop, BUILD, 1, 0, 0, 0);
        Due.act(shop, FIT, 1, LEAST, 99, 99);
        Due.act(shop, FIT, 1, MOST, 100, 100);
        Due.stand(shop, 1, 1, 0, 99, 0);
        Due.act(shop, TRUE, 1, 1, 0, 1);
        Due.act(shop, FIT, 1, -3, 101, 101);
        Due.stand(shop, 1, 1, 0, 99, 1, 0, 0);
        Due.act(shop, FIT, 1, -2, LEAST, LEAST);
        Due.stand(shop, 1, 1, 0, LEAST, 1);
        Due.act(shop, FIT, 1, 2, MOST, MOST);
        Due.stand(shop, 1, 1, 0, MOST - 100, 1);
        Due.act(shop, FIT, 1, 3, 0, 0);
        Due.fails(shop, COUNT, 1, 1, 0, Due.NOTHING);
        Due.act(shop, COUNT, 1, 0, 0, MOST - 100);
    }

    private static void trueAndCount() {
        CycleShop shop = new CycleShop();
        Due.fails(shop, TRUE, 0, 0, 0, Due.NOTHING);
        Due.fails(shop, COUNT, 0, 0, 0, Due.NOTHING);
        Due.act(shop, BUILD, 0, 0, 0, 0);
        Due.fails(shop, TRUE, 0, 1, 0, Due.NOTHING);
        Due.fails(shop, COUNT, 0, 0, 0, Due.NOTHING);
        Due.act(shop, FIT, 0, 0, LEAST, LEAST);
        Due.act(shop, TRUE, 0, 0, 0, LEAST);
        Due.act(shop, TRUE, 0, 2, 0, 0);
        Due.act(shop, TRUE, 0, -2, 0, LEAST);
        Due.act(shop, FIT, 0, 1, MOST, MOST);
        Due.act(shop, TRUE, 0, 1, 0, MOST - 99);
        Due.act(shop, TRUE, 0, -1, 0, 2 * (MOST - 100) + 1);
        Due.act(shop, COUNT, 0, 1, 0, MOST - 100);
        Due.act(shop, COUNT, 0, 0, 0, LEAST);
        Due.stand(shop, 0, 1, 0, LEAST, MOST - 100, 3, 2);
        Due.act(shop, FIT, 0, 0, 99, 99);
        Due.act(shop, TRUE, 0, 0, 0, 99);
        Due.act(shop, FIT, 0, 0, 100, 100);
        Due.act(shop, TRUE, 0, 0, 0, 1);
        Due.act(shop, TRUE, 0, 0, 0, 1);
    }

    private static void lightAndShine() {
        CycleShop shop = new CycleShop();
        Due.fails(shop, LIGHT, 2, 1, 0, Due.NOTHING);
        Due.fails(shop, SHINE, 2, 1, 0, Due.NOTHING);
        Due.act(shop, BUILD, 2, 0, 0, 0);
        Due.fails(shop, SHINE, 2, 1, 0, Due.NOTHING);
        Due.act(shop, LIGHT, 2, 1, 5, 1);
        Due.act(shop, SHINE, 2, 5, 0, 15);
        Due.act(shop, SHINE, 2, LEAST, 0, LEAST);
        Due.act(shop, LIGHT, 2, -1, 1, -1);
        Due.act(shop, SHINE, 2, LEAST, 0, LEAST);
        Due.act(shop, SHINE, 2, 4, 0, 0);
        Due.stand(shop, 2, 1, 0, 0, 0, 0, 0, 0, 0);
        Due.act(shop, LIGHT, 2, MOST, LEAST, MOST);
        Due.act(shop, SHINE, 2, 4, 0, 0);
        Due.is("stand(2, 7)", shop.stand(2, 7), LEAST);
        Due.act(shop, LIGHT, 2, 0, 7, 0);
        Due.is("stand(2, 7)", shop.stand(2, 7), 0);
        Due.fails(shop, SHINE, 2, 4, 0, Due.NOTHING);
    }

    private static void basket() {
        CycleShop shop = new CycleShop();
        Due.fails(shop, PUT, 3, 0, 0, Due.NOTHING);
        Due.fails(shop, PUT, 3, -1, 0, Due.NOTHING);
        Due.fails(shop, BASKET, 3, -1, 0, Due.SIZE);
        Due.fails(shop, BASKET, 3, LEAST, 99, Due.SIZE);
        Due.fails(shop, LONG, 3, 0, 0, Due.NOTHING);
        Due.act(shop, BASKET, 3, 12, MOST, 12);
        Due.act(shop, PUT, 3, 11, MOST, 0);
        Due.act(shop, PUT, 3, 11, LEAST, MOST);
        Due.act(shop, PUT, 3, 0, 1, 0);
        Due.fails(shop, PUT, 3, 12, 1, Due.INDEX);
        Due.fails(shop, PUT, 3, LEAST, 1, Due.INDEX);
        Due.fails(shop, BASKET, 3, -1, 0, Due.SIZE);
        Due.act(shop, BASKET, 3, 13, 0, Due.FAILED);
        Due.act(shop, PUT, 3, 11, 4, LEAST);
        Due.act(shop, BASKET, 3, 0, 0, 0);
        Due.act(shop, LONG, 3, 0, 0, 0);
        Due.fails(shop, PUT, 3, 0, 1, Due.INDEX);
        Due.act(shop, BASKET, 3, 12, 0, 12);
        Due.act(shop, PUT, 3, 11, 4, 0);
        Due.act(shop, PUT, 3, 0, 4, 0);
        Due.fails(shop, LONG, 2, 0, 0, Due.NOTHING);
    }

    private static void rack() {
        CycleShop shop = new CycleShop();
        Due.fails(shop, RACK, 2, -1, 0, Due.SIZE);
        Due.fails(shop, RACK, 2, LEAST, 1, Due.SIZE);
        Due.fails(shop, LONG, 2, 1, 0, Due.NOTHING);
        Due.act(shop, RACK, 2, 12, LEAST, 12);
        Due.act(shop, LONG, 2, 1, 77, 12);
        Due.act(shop, BUILD, 0, 0, 0, 0);
        Due.act(shop, FIT, 0, 0, 5, 5);
        Due.act(shop, HANG, 2, 11, 0, 1);
        Due.fails(shop, RACK, 2, -1, 1, Due.SIZE);
        Due.act(shop, RACK, 2, 13, 1, Due.FAILED);
        Due.is("rack(2, 11)", shop.rack(2, 11), 5);
        Due.act(shop, HANG, 2, 0, 0, 1);
        Due.act(shop, RACK, 2, 12, -1, 12);
        Due.is("rack(2, 11)", shop.rack(2, 11), LEAST);
        Due.is("rack(2, 0)", shop.rack(2, 0), LEAST);
        Due.fails(shop, HANG, 2, 11, 0, Due.STORE);
        Due.act(shop, RACK, 2, 0, MOST, 0);
        Due.act(shop, LONG, 2, 1, 0, 0);
        Due.fails(shop, HANG, 2, 0, 0, Due.INDEX);
        Due.fails(shop, BALANCE, 2, 0, 0, Due.INDEX);
    }

    private static void grid() {
        CycleShop shop = new CycleShop();
        Due.fails(shop, ADD, 1, -1, -1, Due.NOTHING);
        Due.fails(shop, LONG, 1, 2, 0, Due.NOTHING);
        Due.fails(shop, LONG, 1, -1, -1, Due.NOTHING);
        Due.fails(shop, GRID, 1, -1, 12, Due.SIZE);
        Due.fails(shop, GRID, 1, 12, -1, Due.SIZE);
        Due.fails(shop, GRID, 1, 0, LEAST, Due.SIZE);
        Due.act(shop, GRID, 1, 0, 12, 0);
        Due.act(shop, LONG, 1, 2, 0, 0);
        Due.fails(shop, LONG, 1, 3, 0, Due.INDEX);
        Due.act(shop, GRID, 1, 12, 12, 12);
        Due.act(shop, ADD, 1, 11, 11, 1);
        Due.act(shop, ADD, 1, 11, 11, 2);
        Due.act(shop, ADD, 1, 0, 11, 1);
        Due.fails(shop, ADD, 1, 12, 0, Due.INDEX);
        Due.fails(shop, ADD, 1, 0, 12, Due.INDEX);
        Due.fails(shop, ADD, 1, -1, 0, Due.INDEX);
        Due.fails(shop, ADD, 1, 1, -1, Due.INDEX);
        Due.fails(shop, GRID, 1, -1, 0, Due.SIZE);
        Due.act(shop, GRID, 1, 13, 0, Due.FAILED);
        Due.act(shop, GRID, 1, 0, 13, Due.FAILED);
        Due.is("grid(1, 11, 11)", shop.grid(1, 11, 11), 2);
        Due.act(shop, GRID, 1, 3, 0, 3);
        Due.act(shop, LONG, 1, 2, 99, 3);
        Due.act(shop, LONG, 1, LEAST, 2, 0);
        Due.fails(shop, LONG, 1, MOST, 3, Due.INDEX);
        Due.fails(shop, LONG, 1, 3, -1, Due.INDEX);
        Due.fails(shop, ADD, 1, 0, 0, Due.INDEX);
        Due.act(shop, GRID, 1, 12, 12, 12);
        Due.act(shop, ADD, 1, 11, 11, 1);
        Due.act(shop, ADD, 1, 0, 11, 1);
        Due.act(shop, GRID, 1, 2, 5, 2);
        Due.act(shop, LONG, 1, 2, 0, 2);
        Due.act(shop, LONG, 1, 3, 1, 5);
        Due.act(shop, LONG, 1, -1, 0, 5);
    }

    private static void hang() {
        CycleShop shop = new CycleShop();
        Due.act(shop, BUILD, 3, 0, 0, 0);
        Due.act(shop, FIT, 3, 1, 50, 50);
        Due.act(shop, RACK, 0, 3, 1, 3);
        Due.act(shop, RACK, 1, 3, 2, 3);
        Due.act(shop, HANG, 0, 2, 3, 1);
        Due.is("rack(0, 2)", shop.rack(0, 2), LEAST);
        Due.act(shop, FIT, 3, 0, 120, 120);
        Due.act(shop, HANG, 0, 2, 3, 1);
        Due.act(shop, HANG, 1, 0, 3, 1);
        Due.act(shop, TRUE, 3, 0, 0, 21);
        Due.act(shop, BALANCE, 1, 0, 0, 1020);
        Due.act(shop, TRUE, 3, 0, 0, 21);
        Due.act(shop, FIT, 3, 0, 30, 30);
        Due.fails(shop, HANG, 0, 2, 3, Due.STORE);
        Due.is("rack(0, 2)", shop.rack(0, 2), 1020);
        Due.act(shop, HANG, 1, 0, 3, 1);
        Due.is("rack(1, 0)", shop.rack(1, 0), 30);
        Due.act(shop, STRIP, 3, 0, 0, 1);
        Due.is("rack(1, 0)", shop.rack(1, 0), 30);
        Due.act(shop, BALANCE, 0, 2, 0, 1020);
    }

    private static void hangReasonsInOrder() {
        CycleShop shop = new CycleShop();
        Due.fails(shop, HANG, 0, -1, 0, Due.NOTHING);
        Due.act(shop, BUILD, 0, 0, 0, 0);
        Due.fails(shop, HANG, 0, -1, 0, Due.NOTHING);
        Due.act(shop, RACK, 0, 1, 1, 1);
        Due.fails(shop, HANG, 0, 1, 1, Due.NOTHING);
        Due.fails(shop, HANG, 0, 0, 1, Due.NOTHING);
        Due.act(shop, FIT, 0, 0, 1, 1);
        Due.fails(shop, HANG, 0, 1, 0, Due.INDEX);
        Due.fails(shop, HANG, 0, -1, 0, Due.INDEX);
        Due.fails(shop, HANG, 0, 0, 0, Due.STORE);
    }

    private static void balance() {
        CycleShop shop = new CycleShop();
        Due.fails(shop, BALANCE, 0, -1, 0, Due.NOTHING);
        Due.act(shop, RACK, 0, 12, 0, 12);
        Due.fails(shop, BALANCE, 0, -1, 0, Due.INDEX);
        Due.fails(shop, BALANCE, 0, 12, 0, Due.INDEX);
        Due.fails(shop, BALANCE, 0, 11, 0, Due.NOTHING);
        Due.act(shop, BUILD, 0, 0, 0, 0);
        Due.act(shop, FIT, 0, 0, 7, 7);
        Due.act(shop, TRUE, 0, 0, 0, 7);
        Due.act(shop, HANG, 0, 11, 0, 1);
        Due.fails(shop, BALANCE, 0, 11, 0, Due.CAST);
        Due.is("stand(0, 4)", shop.stand(0, 4), 1);
        Due.act(shop, FIT, 0, 0, MOST, MOST);
        Due.act(shop, TRUE, 0, 0, 0, MOST - 99);
        Due.act(shop, HANG, 0, 11, 0, 1);
        Due.is("stand(0, 4)", shop.stand(0, 4), 1);
        Due.act(shop, BALANCE, 0, 11, 0, MOST - 100 + 1000);
        Due.is("stand(0, 4)", shop.stand(0, 4), 0);
    }

    private static void excuseAndRaise() {
        CycleShop shop = new CycleShop();
        Due.act(shop, RAISE, 3, 0, 9, 0);
        Due.fails(shop, RAISE, 3, -1, 0, Due.NOTHING);
        Due.act(shop, EXCUSE, 3, 1, 9, 1);
        Due.act(shop, EXCUSE, 2, LEAST, 9, LEAST);
        Due.act(shop, RAISE, 3, 0, 9, 0);
        Due.fails(shop, RAISE, 3, MOST, 0, Due.LATE);
        Due.fails(shop, RAISE, 2, LEAST, 0, Due.BROKEN);
        Due.fails(shop, RAISE, 1, 1, 0, Due.NOTHING);
        Due.act(shop, EXCUSE, 3, 2, 0, 2);
        Due.fails(shop, RAISE, 3, 1, 0, Due.BROKEN);
        Due.act(shop, EXCUSE, 3, 0, 0, 0);
        Due.fails(shop, RAISE, 3, 1, 0, Due.NOTHING);
    }

    private static void bad() {
        CycleShop shop = new CycleShop();
        int[][] bad = {
            {-1, 0, 0, 0}, {17, 0, 0, 0}, {LEAST, 0, 0, 0}, {MOST, 0, 0, 0},
            {BASKET, 0, 13, 0}, {BASKET, 0, MOST, 0}, {RACK, 0, 13, 0}, {RACK, 0, MOST, 1},
            {GRID, 0, 13, 0}, {GRID, 0, 0, 13}, {GRID, 0, -1, 13}, {GRID, 0, 13, -1}, {GRID, 0, MOST, MOST},
            {HANG, 0, 0, -1}, {HANG, 0, 0, 4}, {HANG, 0, 0, LEAST}, {HANG, 0, 0, MOST},
        };
        for (int[] step : bad) {
            Due.act(shop, step[0], step[1], step[2], step[3], Due.FAILED);
        }
        for (int kind = 0; kind <= 16; kind++) {
            for (int a : new int[] {-1, 4, LEAST, MOST}) {
                Due.act(shop, kind, a, 0, 0, Due.FAILED);
            }
        }
        for (int reason = 1; reason <= 7; reason++) {
            Due.is("tally(" + reason + ")", shop.tally(reason), 0);
        }
    }
}
