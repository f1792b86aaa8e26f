/** Promises 9 to 12: stand, basket, rack, grid. */
public final class LookTest {
    private static final int LEAST = Integer.MIN_VALUE, MOST = Integer.MAX_VALUE;
    private static final int[] OUTSIDE = {-1, 4, LEAST, MOST};

    public static void main(String[] args) {
        stand();
        standHanging();
        standBad();
        basket();
        rack();
        grid();
        Due.end();
    }

    private static void stand() {
        CycleShop shop = new CycleShop();
        for (int a = 0; a < 4; a++) {
            Due.stand(shop, a, 0, 0, 0, 0, 0, 0, 0, 0);
            shop.act(0, a, 10 + a, 0);
            Due.stand(shop, a, 1, 10 + a, 0, 0, 0, 0, 0, 0);
            shop.act(2, a, 0, 20 + a);
            shop.act(2, a, 1, 130 + a);
            shop.act(3, a, 0, 0);
            shop.act(3, a, 1, 0);
            shop.act(3, a, 1, 0);
            Due.stand(shop, a, 1, 10 + a, 20 + a, 30 + a, 1, 2, 0, 0);
            shop.act(5, a, 1, 40);
            Due.is("stand(a, 7) of a dynamo", shop.stand(a, 7), -1);
            shop.act(5, a, 2, 40 + a);
            Due.stand(shop, a, 1, 10 + a, 20 + a, 30 + a, 1, 2, 0, 40 + a);
            shop.act(6, a, 1, 0);
            Due.is("stand(a, 7) of a battery", shop.stand(a, 7), 39 + a);
            shop.act(5, a, 0, 40);
            Due.is("stand(a, 7) of no lamp", shop.stand(a, 7), 0);
        }
        Due.stand(shop, 0, 1, 10, 20, 30, 1, 2, 0, 0);
        shop.act(1, 0, 0, 0);
        Due.stand(shop, 0, 0, 0, 0, 0, 0, 0, 0, 0);
        Due.stand(shop, 1, 1, 11, 21, 31, 1, 2, 0, 0);
        shop.act(2, 1, 0, 0);
        Due.stand(shop, 1, 1, 11, 0, 31, 0, 2, 0, 0);
        shop.act(2, 2, 1, 0);
        Due.stand(shop, 2, 1, 12, 22, 0, 1, 0, 0, 0);
    }

    private static void standHanging() {
        for (int rack = 0; rack < 4; rack++) {
            CycleShop shop = new CycleShop();
            shop.act(8, rack, 12, 0);
            shop.act(0, 0, 0, 0);
            shop.act(0, 1, 0, 0);
            shop.act(2, 0, 0, 20);
            shop.act(2, 0, 1, 20);
            shop.act(2, 1, 0, 20);
            shop.act(13, rack, 11, 0);
            Due.is("stand(0, 6)", shop.stand(0, 6), 1);
            Due.is("stand(1, 6), alike but another wheel", shop.stand(1, 6), 0);
            shop.act(13, rack, 11, 1);
            Due.is("stand(0, 6), another one hangs there now", shop.stand(0, 6), 0);
            Due.is("stand(1, 6)", shop.stand(1, 6), 1);
            shop.act(13, rack, 0, 0);
            Due.is("stand(0, 6)", shop.stand(0, 6), 1);
            shop.act(2, 0, 0, 20);
            Due.is("stand(0, 6), a new wheel", shop.stand(0, 6), 0);
            shop.act(8, rack, 12, 0);
            Due.is("stand(1, 6), a new rack", shop.stand(1, 6), 0);
            shop.act(2, 1, 0, 0);
            Due.is("stand(1, 6), no wheel and empty places", shop.stand(1, 6), 0);
        }
    }

    private static void standBad() {
        CycleShop shop = new CycleShop();
        shop.act(0, 0, 5, 0);
        for (int what = 0; what < 8; what++) {
            for (int a : OUTSIDE) {
                Due.is("stand(" + a + ", " + what + ")", shop.stand(a, what), LEAST);
            }
        }
        for (int what : new int[] {-1, 8, LEAST, MOST}) {
            Due.is("stand(0, " + what + ")", shop.stand(0, what), LEAST);
            Due.is("stand(1, " + what + ")", shop.stand(1, what), LEAST);
        }
    }

    private static void basket() {
        CycleShop shop = new CycleShop();
        for (int a = 0; a < 4; a++) {
            Due.is("basket(a, 0) of none", shop.basket(a, 0), 0);
            shop.act(7, a, 12, 0);
            for (int i = 0; i < 12; i++) {
                shop.act(11, a, i, 100 * a + i + 1);
            }
        }
        for (int a = 0; a < 4; a++) {
            for (int i = 0; i < 12; i++) {
                Due.is("basket(" + a + ", " + i + ")", shop.basket(a, i), 100 * a + i + 1);
            }
            for (int i : new int[] {-1, 12, LEAST, MOST}) {
                Due.is("basket(" + a + ", " + i + ")", shop.basket(a, i), 0);
            }
        }
        for (int a : OUTSIDE) {
            Due.is("basket(" + a + ", 0)", shop.basket(a, 0), 0);
        }
        shop.act(11, 0, 0, LEAST);
        Due.is("basket(0, 0)", shop.basket(0, 0), LEAST);
        shop.act(7, 0, 1, 0);
        Due.is("basket(0, 0), a new row", shop.basket(0, 0), 0);
        Due.is("basket(0, 1), behind the new row", shop.basket(0, 1), 0);
    }

    private static void rack() {
        CycleShop shop = new CycleShop();
        for (int a = 0; a < 4; a++) {
            shop.act(0, a, 0, 0);
            shop.act(8, a, 12, 0);
            shop.act(2, a, 0, 10 + a);
            shop.act(13, a, 11, a);
            shop.act(2, a, 0, 150 + a);
            shop.act(13, a, 0, a);
        }
        for (int a = 0; a < 4; a++) {
            Due.is("rack(" + a + ", 11)", shop.rack(a, 11), 10 + a);
            Due.is("rack(" + a + ", 0)", shop.rack(a, 0), 1050 + a);
            for (int i : new int[] {-1, 1, 10, 12, LEAST, MOST}) {
                Due.is("rack(" + a + ", " + i + ")", shop.rack(a, i), LEAST);
            }
        }
        for (int a : OUTSIDE) {
            Due.is("rack(" + a + ", 0)", shop.rack(a, 0), LEAST);
        }
        shop.act(2, 0, 0, MOST);
        shop.act(13, 0, 1, 0);
        Due.is("rack(0, 1)", shop.rack(0, 1), MOST - 100 + 1000);
        shop.act(2, 0, 0, 100);
        shop.act(13, 0, 1, 0);
        Due.is("rack(0, 1)", shop.rack(0, 1), 1000);
        shop.act(2, 0, 0, -7);
        shop.act(13, 0, 1, 0);
        Due.is("rack(0, 1)", shop.rack(0, 1), -7);
        shop.act(8, 0, 1, 0);
        Due.is("rack(0, 0), a new row", shop.rack(0, 0), LEAST);
        Due.is("rack(0, 1), behind the new row", shop.rack(0, 1), LEAST);
    }

    private static void grid() {
        CycleShop shop = new CycleShop();
        for (int a = 0; a < 4; a++) {
            Due.is("grid(a, 0, 0) of none", shop.grid(a, 0, 0), 0);
            shop.act(9, a, 2 + a, 3);
            for (int i = 0; i < 2 + a; i++) {
                for (int times = 0; times <= i + a; times++) {
                    shop.act(12, a, i, 2);
                }
                shop.act(12, a, i, 0);
            }
        }
        for (int a = 0; a < 4; a++) {
            for (int i = -1; i < 13; i++) {
                boolean isRow = i >= 0 && i < 2 + a;
                Due.is("grid(" + a + ", " + i + ", 2)", shop.grid(a, i, 2), isRow ? i + a + 1 : 0);
                Due.is("grid(" + a + ", " + i + ", 0)", shop.grid(a, i, 0), isRow ? 1 : 0);
                Due.is("grid(" + a + ", " + i + ", 1)", shop.grid(a, i, 1), 0);
            }
            for (int wrong : new int[] {-1, 3, 12, LEAST, MOST}) {
                Due.is("grid(" + a + ", 1, " + wrong + ")", shop.grid(a, 1, wrong), 0);
            }
            Due.is("grid(" + a + ", LEAST, 0)", shop.grid(a, LEAST, 0), 0);
            Due.is("grid(" + a + ", MOST, 0)", shop.grid(a, MOST, 0), 0);
        }
        for (int a : OUTSIDE) {
            Due.is("grid(" + a + ", 0, 0)", shop.grid(a, 0, 0), 0);
        }
        shop.act(9, 3, 1, 1);
        Due.is("grid(3, 0, 0), a new grid", shop.grid(3, 0, 0), 0);
        Due.is("grid(3, 1, 2), behind the new grid", shop.grid(3, 1, 2), 0);
    }
}
