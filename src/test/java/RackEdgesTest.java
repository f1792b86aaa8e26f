/** Steps of the kinds 13 and 14: a method for each sentence of "Terms" that names a boundary case. */
public final class RackEdgesTest {
    private static final int BUILD = 0, STRIP = 1, FIT = 2, TRUE = 3, RACK = 8, HANG = 13, BALANCE = 14;
    private static final int LEAST = Integer.MIN_VALUE, MOST = Integer.MAX_VALUE;

    public static void main(String[] args) {
        hangAtTheEnds();
        hangOutside();
        hangIsOfBoth();
        hangOfNone();
        hangWithoutRackOrBike();
        hangNoDiscWhereThereAreDiscsAlone();
        hangReasonsInOrder();
        hangFromAStandThatIsNone();
        balanceOfADisc();
        balanceWraps();
        balanceOutside();
        balanceOfNoDisc();
        balanceOfAnEmptyPlace();
        balanceWithoutRack();
        Due.end();
    }

    private static CycleShop withBike(int a) {
        CycleShop shop = new CycleShop();
        Due.act(shop, BUILD, a, 70, 0, 70);
        return shop;
    }

    /** RACK 0 for all WHEELS, RACK 1 for DISCS alone, each with 3 places, and a BIKE without WHEELS on STAND 0. */
    private static CycleShop withRacks() {
        CycleShop shop = withBike(0);
        Due.act(shop, RACK, 0, 3, 0, 3);
        Due.act(shop, RACK, 1, 3, 1, 3);
        return shop;
    }

    private static void hangAtTheEnds() {
        Due.sentence("HANG: place b of RACK a gets what FRONT of the BIKE on STAND c is: 1. (c 0 .. 3.)");
        for (int c = 0; c < 4; c++) {
            int a = 3 - c;
            CycleShop shop = withBike(c);
            Due.act(shop, FIT, c, 0, 20 + c, 20 + c);
            Due.act(shop, FIT, c, 1, 30 + c, 30 + c);
            Due.act(shop, RACK, a, 12, 0, 12);
            Due.act(shop, HANG, a, 0, c, 1);
            Due.act(shop, HANG, a, 11, c, 1);
            for (int i = 0; i < 12; i++) {
                Due.is("rack(" + a + ", " + i + ")", shop.rack(a, i), i == 0 || i == 11 ? 20 + c : LEAST);
            }
        }
    }

    private static void hangOutside() {
        Due.sentence("HANG: INDEX");
        for (int size : new int[] {0, 1, 12}) {
            CycleShop shop = withBike(0);
            Due.act(shop, FIT, 0, 0, 108, 108);
            Due.act(shop, RACK, 0, size, 0, size);
            Due.act(shop, RACK, 1, size, 1, size);
            for (int b : new int[] {size, -1, 13, LEAST, MOST}) {
                Due.fails(shop, HANG, 0, b, 0, Due.INDEX);
                Due.fails(shop, HANG, 1, b, 0, Due.INDEX);
            }
            Due.is("stand(0, 6)", shop.stand(0, 6), 0);
        }
    }

    private static void hangIsOfBoth() {
        Due.sentence("HANG: a WHEEL of both then");
        CycleShop shop = withRacks();
        Due.act(shop, FIT, 0, 0, 108, 108);
        Due.act(shop, TRUE, 0, 0, 0, 9);
        Due.act(shop, HANG, 0, 0, 0, 1);
        Due.act(shop, HANG, 1, 2, 0, 1);
        Due.stand(shop, 0, 1, 70, 8, 0, 1, 0, 1, 0);
        Due.act(shop, TRUE, 0, 0, 0, 17);
        Due.act(shop, BALANCE, 0, 0, 0, 1008);
        Due.is("stand(0, 4)", shop.stand(0, 4), 0);
        Due.act(shop, TRUE, 0, 0, 0, 9);
        Due.act(shop, BALANCE, 1, 2, 0, 1008);
        Due.is("stand(0, 4)", shop.stand(0, 4), 0);
        Due.act(shop, STRIP, 0, 0, 0, 1);
        Due.is("rack(0, 0)", shop.rack(0, 0), 1008);
        Due.act(shop, BALANCE, 1, 2, 0, 1008);
    }

    private static void hangOfNone() {
        Due.sentence("HANG: or none");
        CycleShop shop = withRacks();
        Due.act(shop, FIT, 0, 1, 9, 9);
        for (int rack = 0; rack < 2; rack++) {
            Due.act(shop, HANG, rack, 1, 0, 1);
            Due.is("rack(" + rack + ", 1)", shop.rack(rack, 1), LEAST);
            Due.act(shop, FIT, 0, 0, 108, 108);
            Due.act(shop, HANG, rack, 1, 0, 1);
            Due.is("rack(" + rack + ", 1)", shop.rack(rack, 1), 1008);
            Due.act(shop, FIT, 0, 0, 0, 0);
            Due.act(shop, HANG, rack, 1, 0, 1);
            Due.is("rack(" + rack + ", 1)", shop.rack(rack, 1), LEAST);
            Due.fails(shop, BALANCE, rack, 1, 0, Due.NOTHING);
        }
    }

    private static void hangWithoutRackOrBike() {
        Due.sentence("HANG: NOTHING: no RACK, no BIKE");
        CycleShop shop = new CycleShop();
        Due.fails(shop, HANG, 0, 0, 0, Due.NOTHING);
        Due.act(shop, RACK, 0, 1, 0, 1);
        Due.fails(shop, HANG, 0, 0, 0, Due.NOTHING);
        Due.act(shop, BUILD, 3, 1, 0, 1);
        Due.fails(shop, HANG, 0, 0, 0, Due.NOTHING);
        Due.fails(shop, HANG, 1, 0, 3, Due.NOTHING);
        Due.act(shop, HANG, 0, 0, 3, 1);
        Due.act(shop, FIT, 3, 0, 8, 8);
        Due.act(shop, HANG, 0, 0, 3, 1);
        Due.fails(shop, HANG, 0, 0, 0, Due.NOTHING);
        Due.is("rack(0, 0)", shop.rack(0, 0), 8);
    }

    private static void hangNoDiscWhereThereAreDiscsAlone() {
        Due.sentence("HANG: STORE: a WHEEL that is no DISC, where there are DISCS alone");
        CycleShop shop = withRacks();
        Due.act(shop, FIT, 0, 0, 100, 100);
        Due.act(shop, HANG, 1, 0, 0, 1);
        Due.act(shop, FIT, 0, 0, 99, 99);
        Due.fails(shop, HANG, 1, 0, 0, Due.STORE);
        Due.fails(shop, HANG, 1, 2, 0, Due.STORE);
        Due.is("rack(1, 0)", shop.rack(1, 0), 1000);
        Due.is("rack(1, 2)", shop.rack(1, 2), LEAST);
        Due.is("stand(0, 6)", shop.stand(0, 6), 0);
        Due.act(shop, HANG, 0, 0, 0, 1);
        Due.act(shop, FIT, 0, 0, 100, 100);
        Due.act(shop, HANG, 0, 0, 0, 1);
        Due.is("rack(0, 0)", shop.rack(0, 0), 1000);
    }

    private static void hangReasonsInOrder() {
        Due.sentence("HANG: FAILS by the first REASON that is told");
        CycleShop shop = withBike(0);
        Due.act(shop, FIT, 0, 0, 8, 8);
        Due.act(shop, RACK, 1, 1, 1, 1);
        for (int b : new int[] {1, -1, LEAST, MOST}) {
            Due.fails(shop, HANG, 0, b, 0, Due.NOTHING);
            Due.fails(shop, HANG, 1, b, 1, Due.NOTHING);
            Due.fails(shop, HANG, 1, b, 0, Due.INDEX);
        }
        Due.fails(shop, HANG, 1, 0, 0, Due.STORE);
    }

    private static void hangFromAStandThatIsNone() {
        Due.sentence("BAD: c of HANG");
        CycleShop shop = withRacks();
        Due.act(shop, FIT, 0, 0, 108, 108);
        for (int c : new int[] {-1, 4, 5, LEAST, MOST}) {
            Due.act(shop, HANG, 0, 0, c, Due.FAILED);
            Due.act(shop, HANG, 0, 3, c, Due.FAILED);
            Due.act(shop, HANG, 2, 0, c, Due.FAILED);
        }
        Due.is("rack(0, 0)", shop.rack(0, 0), LEAST);
        Due.is("tally(1)", shop.tally(Due.NOTHING), 0);
        Due.is("tally(3)", shop.tally(Due.INDEX), 0);
    }

    private static void balanceOfADisc() {
        Due.sentence("BALANCE: its TURNS are 0: 1000 and its SPOKES");
        CycleShop shop = withRacks();
        for (int spokes : new int[] {0, 1, 999}) {
            Due.act(shop, FIT, 0, 0, 100 + spokes, 100 + spokes);
            Due.act(shop, TRUE, 0, 0, 0, spokes + 1);
            for (int rack = 0; rack < 2; rack++) {
                Due.act(shop, HANG, rack, 2, 0, 1);
                Due.act(shop, BALANCE, rack, 2, 9, 1000 + spokes);
                Due.act(shop, BALANCE, rack, 2, 9, 1000 + spokes);
                Due.stand(shop, 0, 1, 70, spokes, 0, 0, 0, 1);
                Due.act(shop, TRUE, 0, 0, 0, spokes + 1);
            }
        }
    }

    private static void balanceWraps() {
        Due.sentence("sums wrap: 1000 and SPOKES of a DISC");
        CycleShop shop = withRacks();
        int[] spokes = {MOST - 1000, MOST - 999, MOST - 100};
        int[] sums = {MOST, LEAST, LEAST + 899};
        for (int i = 0; i < spokes.length; i++) {
            Due.act(shop, FIT, 0, 0, spokes[i] + 100, spokes[i] + 100);
            Due.act(shop, HANG, 0, i, 0, 1);
            Due.act(shop, BALANCE, 0, i, 0, sums[i]);
            Due.is("rack(0, " + i + ")", shop.rack(0, i), sums[i]);
        }
    }

    private static void balanceOutside() {
        Due.sentence("BALANCE: INDEX");
        for (int size : new int[] {0, 1, 12}) {
            CycleShop shop = new CycleShop();
            Due.act(shop, RACK, 0, size, 0, size);
            for (int b : new int[] {size, -1, 13, LEAST, MOST}) {
                Due.fails(shop, BALANCE, 0, b, 0, Due.INDEX);
            }
        }
    }

    private static void balanceOfNoDisc() {
        Due.sentence("BALANCE: CAST: it is a WHEEL and no DISC");
        CycleShop shop = withRacks();
        Due.act(shop, FIT, 0, 0, 99, 99);
        Due.act(shop, TRUE, 0, 0, 0, 99);
        Due.act(shop, HANG, 0, 2, 0, 1);
        Due.fails(shop, BALANCE, 0, 2, 0, Due.CAST);
        Due.is("stand(0, 4)", shop.stand(0, 4), 1);
        Due.is("rack(0, 2)", shop.rack(0, 2), 99);
    }

    private static void balanceOfAnEmptyPlace() {
        Due.sentence("BALANCE: NOTHING: the place is empty");
        CycleShop shop = withRacks();
        for (int rack = 0; rack < 2; rack++) {
            for (int b = 0; b < 3; b++) {
                Due.fails(shop, BALANCE, rack, b, 0, Due.NOTHING);
            }
        }
    }

    private static void balanceWithoutRack() {
        Due.sentence("BALANCE: NOTHING: no RACK, ahead of INDEX");
        CycleShop shop = new CycleShop();
        for (int b : new int[] {0, -1, 12, LEAST, MOST}) {
            Due.fails(shop, BALANCE, 2, b, 0, Due.NOTHING);
        }
    }
}
