/** Steps of the kinds 0 to 6, 15 and 16: a method for each sentence of "Terms" that names a boundary case. */
public final class BikeEdgesTest {
    private static final int BUILD = 0, STRIP = 1, FIT = 2, TRUE = 3, COUNT = 4, LIGHT = 5, SHINE = 6;
    private static final int RACK = 8, HANG = 13, BALANCE = 14, EXCUSE = 15, RAISE = 16;
    private static final int LEAST = Integer.MIN_VALUE, MOST = Integer.MAX_VALUE;
    private static final int[] EVEN = {0, 2, -2, LEAST, MOST - 1};
    private static final int[] ODD = {1, 3, -1, -3, MOST, LEAST + 1};

    public static void main(String[] args) {
        standsAreFour();
        buildTakesAnyFrame();
        buildMakesANewBikeWhereOneIs();
        stripOfAnEmptyStand();
        stripLeavesNothingBehind();
        fitByEvenAndOdd();
        fitBelow100();
        fit100AndMore();
        fit0IsNone();
        fitMakesANewWheel();
        fitWithoutBike();
        trueByEvenAndOdd();
        trueOfADiscIsOneMore();
        trueWraps();
        trueOfADiscWraps();
        trueWithoutBikeOrWheel();
        countTellsSpokes();
        countWithoutBikeOrWheel();
        lightByB();
        lightWithoutBike();
        dynamoNeverEnds();
        shineWraps();
        batteryRunsOut();
        batteryAtOrBelow0();
        shineWithoutBikeOrLamp();
        excuseByB();
        raiseByB();
        Due.end();
    }

    private static CycleShop withBike() {
        CycleShop shop = new CycleShop();
        Due.act(shop, BUILD, 0, 70, 0, 70);
        return shop;
    }

    /** RACK 0 for all WHEELS, RACK 1 for DISCS alone, each with 3 places, and a BIKE without WHEELS on STAND 0. */
    private static CycleShop withRacks() {
        CycleShop shop = withBike();
        Due.act(shop, RACK, 0, 3, 0, 3);
        Due.act(shop, RACK, 1, 3, 1, 3);
        return shop;
    }

    private static void standsAreFour() {
        Due.sentence("STANDS 0 .. 3 hold a BIKE or none");
        CycleShop shop = new CycleShop();
        for (int a = 0; a < 4; a++) {
            Due.act(shop, BUILD, a, 70 + a, 0, 70 + a);
            Due.act(shop, FIT, a, 0, 10 + a, 10 + a);
            Due.act(shop, FIT, a, 1, 120 + a, 120 + a);
            Due.act(shop, LIGHT, a, 2, 40 + a, 2);
        }
        Due.act(shop, STRIP, 1, 0, 0, 1);
        for (int a : new int[] {0, 2, 3}) {
            Due.stand(shop, a, 1, 70 + a, 10 + a, 20 + a, 0, 0, 0, 40 + a);
        }
        Due.stand(shop, 1, 0, 0, 0, 0, 0, 0, 0, 0);
    }

    private static void buildTakesAnyFrame() {
        Due.sentence("BUILD: with FRAME b: b");
        for (int frame : new int[] {0, 1, -1, -2, -3, LEAST, MOST}) {
            CycleShop shop = new CycleShop();
            Due.act(shop, BUILD, 0, frame, 9, frame);
            Due.stand(shop, 0, 1, frame, 0, 0, 0, 0, 0, 0);
        }
    }

    private static void buildMakesANewBikeWhereOneIs() {
        Due.sentence("BUILD: a new BIKE, all none at first");
        CycleShop shop = withBike();
        Due.act(shop, FIT, 0, 0, 8, 8);
        Due.act(shop, FIT, 0, 1, 9, 9);
        Due.act(shop, TRUE, 0, 0, 0, 8);
        Due.act(shop, TRUE, 0, 1, 0, 9);
        Due.act(shop, LIGHT, 0, 2, 5, 2);
        Due.act(shop, BUILD, 0, 71, 0, 71);
        Due.stand(shop, 0, 1, 71, 0, 0, 0, 0, 0, 0);
        Due.fails(shop, COUNT, 0, 0, 0, Due.NOTHING);
        Due.fails(shop, COUNT, 0, 1, 0, Due.NOTHING);
        Due.fails(shop, SHINE, 0, 1, 0, Due.NOTHING);
    }

    private static void stripOfAnEmptyStand() {
        Due.sentence("STRIP: 1, also where there is none");
        CycleShop shop = new CycleShop();
        Due.act(shop, STRIP, 2, LEAST, MOST, 1);
        Due.act(shop, STRIP, 2, 0, 0, 1);
        Due.stand(shop, 2, 0, 0, 0, 0, 0, 0, 0, 0);
    }

    private static void stripLeavesNothingBehind() {
        Due.sentence("STRIP: STAND a holds none");
        CycleShop shop = withBike();
        Due.act(shop, FIT, 0, 0, 8, 8);
        Due.act(shop, FIT, 0, 1, 109, 109);
        Due.act(shop, LIGHT, 0, 1, 5, 1);
        Due.act(shop, STRIP, 0, 0, 0, 1);
        Due.stand(shop, 0, 0, 0, 0, 0, 0, 0, 0, 0);
        for (int kind = FIT; kind <= SHINE; kind++) {
            Due.fails(shop, kind, 0, 0, 0, Due.NOTHING);
            Due.fails(shop, kind, 0, 1, 1, Due.NOTHING);
        }
        Due.act(shop, BUILD, 0, 3, 0, 3);
        Due.stand(shop, 0, 1, 3, 0, 0, 0, 0, 0, 0);
    }

    private static void fitByEvenAndOdd() {
        Due.sentence("FIT: FRONT (b even) or REAR (b odd)");
        for (int b : EVEN) {
            CycleShop shop = withBike();
            Due.act(shop, FIT, 0, b, 8, 8);
            Due.stand(shop, 0, 1, 70, 8, 0);
        }
        for (int b : ODD) {
            CycleShop shop = withBike();
            Due.act(shop, FIT, 0, b, 8, 8);
            Due.stand(shop, 0, 1, 70, 0, 8);
        }
    }

    private static void fitBelow100() {
        Due.sentence("FIT: a new WHEEL with c SPOKES, c below 100");
        for (int c : new int[] {99, 98, 1, -1, -100, LEAST}) {
            CycleShop shop = withRacks();
            Due.act(shop, FIT, 0, 0, c, c);
            Due.stand(shop, 0, 1, 70, c, 0, 0, 0, 0, 0);
            Due.act(shop, TRUE, 0, 0, 0, c);
            Due.act(shop, COUNT, 0, 0, 0, c);
            Due.fails(shop, HANG, 1, 0, 0, Due.STORE);
            Due.act(shop, HANG, 0, 0, 0, 1);
            Due.is("rack(0, 0)", shop.rack(0, 0), c);
            Due.fails(shop, BALANCE, 0, 0, 0, Due.CAST);
        }
    }

    private static void fit100AndMore() {
        Due.sentence("FIT: a new DISC with c - 100, c 100 and more");
        for (int c : new int[] {100, 101, 199, 200, MOST - 1000}) {
            CycleShop shop = withRacks();
            Due.act(shop, FIT, 0, 0, c, c);
            Due.stand(shop, 0, 1, 70, c - 100, 0, 0, 0, 0, 0);
            Due.act(shop, TRUE, 0, 0, 0, c - 99);
            Due.act(shop, COUNT, 0, 0, 0, c - 100);
            Due.act(shop, HANG, 1, 0, 0, 1);
            Due.is("rack(1, 0)", shop.rack(1, 0), c + 900);
            Due.act(shop, BALANCE, 1, 0, 0, c + 900);
        }
    }

    private static void fit0IsNone() {
        Due.sentence("FIT: none, c 0");
        CycleShop shop = withBike();
        Due.act(shop, FIT, 0, 0, 0, 0);
        Due.fails(shop, COUNT, 0, 0, 0, Due.NOTHING);
        Due.act(shop, FIT, 0, 0, 8, 8);
        Due.act(shop, FIT, 0, 1, 109, 109);
        Due.act(shop, FIT, 0, 2, 0, 0);
        Due.fails(shop, TRUE, 0, 0, 0, Due.NOTHING);
        Due.act(shop, TRUE, 0, 1, 0, 10);
        Due.act(shop, FIT, 0, -1, 0, 0);
        Due.fails(shop, TRUE, 0, 1, 0, Due.NOTHING);
        Due.stand(shop, 0, 1, 70, 0, 0, 0, 0, 0, 0);
    }

    private static void fitMakesANewWheel() {
        Due.sentence("FIT: a new WHEEL, TURNS 0 at first, while the old one hangs where it hung");
        CycleShop shop = withRacks();
        Due.act(shop, FIT, 0, 0, 108, 108);
        Due.act(shop, TRUE, 0, 0, 0, 9);
        Due.act(shop, HANG, 0, 2, 0, 1);
        Due.act(shop, FIT, 0, 0, 108, 108);
        Due.stand(shop, 0, 1, 70, 8, 0, 0, 0, 0, 0);
        Due.act(shop, TRUE, 0, 0, 0, 9);
        Due.act(shop, BALANCE, 0, 2, 0, 1008);
        Due.is("stand(0, 4)", shop.stand(0, 4), 1);
    }

    private static void fitWithoutBike() {
        Due.sentence("FIT: NOTHING: no BIKE");
        for (int c : new int[] {0, 1, 99, 100, LEAST, MOST}) {
            CycleShop shop = new CycleShop();
            Due.fails(shop, FIT, 0, 0, c, Due.NOTHING);
            Due.fails(shop, FIT, 0, 1, c, Due.NOTHING);
            Due.stand(shop, 0, 0, 0, 0, 0, 0, 0, 0, 0);
            Due.act(shop, BUILD, 0, 1, 0, 1);
            Due.stand(shop, 0, 1, 1, 0, 0, 0, 0, 0, 0);
        }
    }

    private static void trueByEvenAndOdd() {
        Due.sentence("TRUE: FRONT or REAR (by b): TURNS are one more: TURNS times SPOKES");
        CycleShop shop = withBike();
        Due.act(shop, FIT, 0, 0, 7, 7);
        Due.act(shop, FIT, 0, 1, -5, -5);
        for (int i = 0; i < EVEN.length; i++) {
            Due.act(shop, TRUE, 0, EVEN[i], 9, 7 * (i + 1));
        }
        for (int i = 0; i < ODD.length; i++) {
            Due.act(shop, TRUE, 0, ODD[i], 9, -5 * (i + 1));
        }
        Due.stand(shop, 0, 1, 70, 7, -5, EVEN.length, ODD.length);
    }

    private static void trueOfADiscIsOneMore() {
        Due.sentence("TRUE: of a DISC 1 more than that");
        CycleShop shop = withBike();
        Due.act(shop, FIT, 0, 0, 100, 100);
        Due.act(shop, FIT, 0, 1, 107, 107);
        Due.act(shop, TRUE, 0, 0, 0, 1);
        Due.act(shop, TRUE, 0, 0, 0, 1);
        Due.act(shop, TRUE, 0, 1, 0, 8);
        Due.act(shop, TRUE, 0, 1, 0, 15);
        Due.stand(shop, 0, 1, 70, 0, 7, 2, 2);
    }

    private static void trueWraps() {
        Due.sentence("products wrap: TURNS times SPOKES");
        CycleShop shop = withBike();
        Due.act(shop, FIT, 0, 0, LEAST, LEAST);
        Due.act(shop, TRUE, 0, 0, 0, LEAST);
        Due.act(shop, TRUE, 0, 0, 0, 0);
        Due.act(shop, TRUE, 0, 0, 0, LEAST);
        Due.act(shop, FIT, 0, 0, LEAST + 1, LEAST + 1);
        Due.act(shop, TRUE, 0, 0, 0, LEAST + 1);
        Due.act(shop, TRUE, 0, 0, 0, 2);
        Due.act(shop, TRUE, 0, 0, 0, LEAST + 3);
    }

    private static void trueOfADiscWraps() {
        Due.sentence("sums wrap: 1 more than TURNS times SPOKES of a DISC");
        CycleShop shop = withBike();
        Due.act(shop, FIT, 0, 1, MOST, MOST);
        Due.act(shop, TRUE, 0, 1, 0, MOST - 99);
        Due.act(shop, TRUE, 0, 1, 0, -201);
        // 9 times so many spokes is the highest int, once the product has wrapped: 1 more than that wraps again.
        int spokes = 1193046471;
        Due.act(shop, FIT, 0, 1, 100 + spokes, 100 + spokes);
        for (int turns = 1; turns <= 8; turns++) {
            Due.act(shop, TRUE, 0, 1, 0, turns * spokes + 1);
        }
        Due.act(shop, TRUE, 0, 1, 0, LEAST);
        Due.is("stand(0, 5)", shop.stand(0, 5), 9);
    }

    private static void trueWithoutBikeOrWheel() {
        Due.sentence("TRUE: NOTHING: no BIKE, no WHEEL");
        CycleShop shop = new CycleShop();
        for (int side = 0; side < 2; side++) {
            Due.fails(shop, TRUE, side, 0, 0, Due.NOTHING);
            Due.fails(shop, TRUE, side, 1, 0, Due.NOTHING);
            Due.act(shop, BUILD, side, 1, 0, 1);
            Due.fails(shop, TRUE, side, 0, 0, Due.NOTHING);
            Due.fails(shop, TRUE, side, 1, 0, Due.NOTHING);
            Due.act(shop, FIT, side, side, 7, 7);
            Due.fails(shop, TRUE, side, 1 - side, 0, Due.NOTHING);
            Due.act(shop, TRUE, side, side, 0, 7);
        }
    }

    private static void countTellsSpokes() {
        Due.sentence("COUNT: its SPOKES");
        CycleShop shop = withBike();
        Due.act(shop, FIT, 0, 0, LEAST, LEAST);
        Due.act(shop, FIT, 0, 1, MOST, MOST);
        for (int b : EVEN) {
            Due.act(shop, COUNT, 0, b, 9, LEAST);
        }
        for (int b : ODD) {
            Due.act(shop, COUNT, 0, b, 9, MOST - 100);
        }
        Due.stand(shop, 0, 1, 70, LEAST, MOST - 100, 0, 0);
    }

    private static void countWithoutBikeOrWheel() {
        Due.sentence("COUNT: NOTHING likewise");
        CycleShop shop = new CycleShop();
        for (int side = 0; side < 2; side++) {
            Due.fails(shop, COUNT, side, 0, 0, Due.NOTHING);
            Due.fails(shop, COUNT, side, 1, 0, Due.NOTHING);
            Due.act(shop, BUILD, side, 1, 0, 1);
            Due.fails(shop, COUNT, side, 0, 0, Due.NOTHING);
            Due.fails(shop, COUNT, side, 1, 0, Due.NOTHING);
            Due.act(shop, FIT, side, side, 100, 100);
            Due.fails(shop, COUNT, side, 1 - side, 0, Due.NOTHING);
            Due.act(shop, COUNT, side, side, 0, 0);
        }
    }

    private static void lightByB() {
        Due.sentence("LIGHT: none (b 0), a DYNAMO (b 1), a BATTERY with CHARGE c (other b): b");
        CycleShop shop = withBike();
        for (int b : new int[] {2, -1, 3, LEAST, MOST}) {
            Due.act(shop, LIGHT, 0, 1, 6, 1);
            Due.is("stand(0, 7)", shop.stand(0, 7), -1);
            Due.act(shop, SHINE, 0, 4, 0, 12);
            Due.act(shop, LIGHT, 0, b, 6, b);
            Due.is("stand(0, 7)", shop.stand(0, 7), 6);
            Due.act(shop, SHINE, 0, 4, 0, 4);
            Due.act(shop, LIGHT, 0, 0, 6, 0);
            Due.is("stand(0, 7)", shop.stand(0, 7), 0);
            Due.fails(shop, SHINE, 0, 4, 0, Due.NOTHING);
        }
    }

    private static void lightWithoutBike() {
        Due.sentence("LIGHT: NOTHING: no BIKE");
        CycleShop shop = new CycleShop();
        for (int b : new int[] {0, 1, 2, -1}) {
            Due.fails(shop, LIGHT, 0, b, 5, Due.NOTHING);
            Due.is("stand(0, 7)", shop.stand(0, 7), 0);
        }
        Due.act(shop, BUILD, 0, 1, 0, 1);
        Due.fails(shop, SHINE, 0, 1, 0, Due.NOTHING);
    }

    private static void dynamoNeverEnds() {
        Due.sentence("SHINE: DYNAMO 3 b");
        CycleShop shop = withBike();
        Due.act(shop, LIGHT, 0, 1, 0, 1);
        for (int b : new int[] {0, 1, -1, 5, 5, 5}) {
            Due.act(shop, SHINE, 0, b, 9, 3 * b);
            Due.is("stand(0, 7)", shop.stand(0, 7), -1);
        }
    }

    private static void shineWraps() {
        Due.sentence("products wrap: DYNAMO 3 b");
        CycleShop shop = withBike();
        Due.act(shop, LIGHT, 0, 1, 0, 1);
        Due.act(shop, SHINE, 0, MOST, 0, MOST - 2);
        Due.act(shop, SHINE, 0, LEAST, 0, LEAST);
        Due.act(shop, SHINE, 0, 715827882, 0, MOST - 1);
        Due.act(shop, SHINE, 0, 715827883, 0, LEAST + 1);
        Due.act(shop, SHINE, 0, -715827883, 0, MOST);
    }

    private static void batteryRunsOut() {
        Due.sentence("SHINE: BATTERY b, if its CHARGE is above 0, which is one less then; else 0");
        CycleShop shop = withBike();
        Due.act(shop, LIGHT, 0, 2, 2, 2);
        Due.act(shop, SHINE, 0, LEAST, 9, LEAST);
        Due.is("stand(0, 7)", shop.stand(0, 7), 1);
        Due.act(shop, SHINE, 0, 0, 9, 0);
        Due.is("stand(0, 7)", shop.stand(0, 7), 0);
        Due.act(shop, SHINE, 0, MOST, 9, 0);
        Due.is("stand(0, 7)", shop.stand(0, 7), 0);
        Due.act(shop, LIGHT, 0, 2, MOST, 2);
        Due.act(shop, SHINE, 0, 7, 0, 7);
        Due.is("stand(0, 7)", shop.stand(0, 7), MOST - 1);
    }

    private static void batteryAtOrBelow0() {
        Due.sentence("SHINE: else 0, and a CHARGE that is not above 0 stays");
        for (int charge : new int[] {0, -1, -2, LEAST}) {
            CycleShop shop = withBike();
            Due.act(shop, LIGHT, 0, 2, charge, 2);
            Due.act(shop, SHINE, 0, 7, 0, 0);
            Due.act(shop, SHINE, 0, -7, 0, 0);
            Due.is("stand(0, 7)", shop.stand(0, 7), charge);
        }
    }

    private static void shineWithoutBikeOrLamp() {
        Due.sentence("SHINE: NOTHING: no BIKE, no LAMP");
        CycleShop shop = new CycleShop();
        Due.fails(shop, SHINE, 0, 0, 0, Due.NOTHING);
        Due.fails(shop, SHINE, 0, 7, 0, Due.NOTHING);
        Due.act(shop, BUILD, 0, 1, 0, 1);
        Due.fails(shop, SHINE, 0, 0, 0, Due.NOTHING);
        Due.fails(shop, SHINE, 0, 7, 0, Due.NOTHING);
    }

    private static void excuseByB() {
        Due.sentence("EXCUSE: none (b 0), LATE (b 1), BROKEN (other b): b");
        CycleShop shop = new CycleShop();
        for (int b : new int[] {2, -1, 3, LEAST, MOST}) {
            Due.act(shop, EXCUSE, 3, b, 9, b);
            Due.fails(shop, RAISE, 3, 1, 0, Due.BROKEN);
            Due.act(shop, EXCUSE, 3, 1, 9, 1);
            Due.fails(shop, RAISE, 3, 1, 0, Due.LATE);
            Due.fails(shop, RAISE, 3, 1, 0, Due.LATE);
            Due.act(shop, EXCUSE, 3, 0, 9, 0);
            Due.fails(shop, RAISE, 3, 1, 0, Due.NOTHING);
        }
    }

    private static void raiseByB() {
        Due.sentence("RAISE: b 0: nothing is raised: 0; else EXCUSE a is: NOTHING: it is none; LATE; BROKEN");
        CycleShop shop = new CycleShop();
        Due.act(shop, EXCUSE, 1, 1, 0, 1);
        Due.act(shop, EXCUSE, 2, 2, 0, 2);
        int[] reasons = {Due.NOTHING, Due.LATE, Due.BROKEN, Due.NOTHING};
        for (int a = 0; a < 4; a++) {
            Due.act(shop, RAISE, a, 0, 1, 0);
            for (int b : new int[] {1, 2, -1, LEAST, MOST}) {
                Due.fails(shop, RAISE, a, b, 0, reasons[a]);
            }
        }
    }
}
