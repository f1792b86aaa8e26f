import java.util.Random;

/**
 * Promises 2 to 12 once more: runs of calls, drawn from a fixed seed, are answered as by a model in which the
 * Java machine itself says what fails, since the reasons are named after what it throws.
 */
public final class ModelTest {
    private static final int RUNS = 4000;
    private static final int CALLS_OF_A_RUN = 220;
    private static final int[] NUMBERS = {0, 1, 2, 3, -1, -2, 5, 11, 12, 13, 36, 99, 100, 101, 140,
        Integer.MIN_VALUE, Integer.MAX_VALUE, Integer.MAX_VALUE - 100, 1 << 30};

    private static class Wheel {
        int spokes;
        int turns;

        int trued() {
            return ++turns * spokes;
        }

        int label() {
            return spokes;
        }
    }

    private static final class Disc extends Wheel {
        @Override
        int trued() {
            return super.trued() + 1;
        }

        @Override
        int label() {
            return spokes + 1000;
        }
    }

    private static final class Lamp {
        boolean dynamo;
        int charge;
    }

    private static final class Bike {
        int frame;
        Wheel[] wheels = new Wheel[2];
        Lamp lamp;
    }

    @SuppressWarnings("serial")
    private static final class Late extends RuntimeException {
    }

    @SuppressWarnings("serial")
    private static final class Broken extends RuntimeException {
    }

    private static final class Model {
        final Bike[] stands = new Bike[4];
        final int[][] baskets = new int[4][];
        final Wheel[][] racks = new Wheel[4][];
        final int[][][] grids = new int[4][][];
        final RuntimeException[] excuses = new RuntimeException[4];
        final int[][][] jobs = new int[4][16][];
        final int[] counts = new int[4];
        final int[] tallies = new int[8];
        int[] told = {0, 0, 0, -1, 0};
        long sum = 0;

        boolean bad(int kind, int a, int b, int c) {
            return kind < 0 || kind > 16 || a < 0 || a > 3 || (kind >= 7 && kind <= 9 && b > 12) || (kind == 9 && c > 12)
                || (kind == 13 && (c < 0 || c > 3));
        }

        long act(int kind, int a, int b, int c) {
            if (bad(kind, a, b, c)) {
                return Long.MIN_VALUE;
            }
            try {
                return kind < 7 ? bikeStep(kind, a, b, c) : rowStep(kind, a, b, c);
            } catch (NullPointerException e) {
                return failed(1);
            } catch (NegativeArraySizeException e) {
                return failed(2);
            } catch (ArrayIndexOutOfBoundsException e) {
                return failed(3);
            } catch (ArrayStoreException e) {
                return failed(4);
            } catch (ClassCastException e) {
                return failed(5);
            } catch (Late e) {
                return failed(6);
            } catch (Broken e) {
                return failed(7);
            }
        }

        long failed(int reason) {
            tallies[reason]++;
            return Long.MIN_VALUE + reason;
        }

        int bikeStep(int kind, int a, int b, int c) {
            int side = b % 2 == 0 ? 0 : 1;
            switch (kind) {
                case 0:
                    stands[a] = new Bike();
                    stands[a].frame = b;
                    return b;
                case 1:
                    stands[a] = null;
                    return 1;
                case 2:
                    stands[a].wheels[side] = c == 0 ? null : c < 100 ? new Wheel() : new Disc();
                    if (c != 0) {
                        stands[a].wheels[side].spokes = c < 100 ? c : c - 100;
                    }
                    return c;
                case 3: return stands[a].wheels[side].trued();
                case 4: return stands[a].wheels[side].spokes;
                case 5:
                    stands[a].lamp = b == 0 ? null : new Lamp();
                    if (b != 0) {
                        stands[a].lamp.dynamo = b == 1;
                        stands[a].lamp.charge = b == 1 ? -1 : c;
                    }
                    return b;
                default: return shine(stands[a].lamp, b);
            }
        }

        int shine(Lamp lamp, int b) {
            if (lamp.dynamo) {
                return b + b + b;
            }
            return lamp.charge > 0 && lamp.charge-- > 0 ? b : 0;
        }

        int rowStep(int kind, int a, int b, int c) {
            switch (kind) {
                case 7:
                    baskets[a] = new int[b];
                    return b;
                case 8:
                    racks[a] = c % 2 == 0 ? new Wheel[b] : new Disc[b];
                    return b;
                case 9:
                    grids[a] = new int[b][c];
                    return b;
                case 10: return b == 0 ? baskets[a].length : b == 1 ? racks[a].length : b == 2 ? grids[a].length : grids[a][c].length;
                case 11:
                    int was = baskets[a][b];
                    baskets[a][b] = c;
                    return was;
                case 12: return ++grids[a][b][c];
                case 13:
                    Wheel front = stands[c].wheels[0];
                    racks[a][b] = front;
                    return 1;
                case 14:
                    Disc disc = (Disc) racks[a][b];
                    disc.turns = 0;
                    return 1000 + disc.spokes;
                case 15:
                    excuses[a] = b == 0 ? null : b == 1 ? new Late() : new Broken();
                    return b;
                default:
                    if (b != 0) {
                        throw excuses[a];
                    }
                    return 0;
            }
        }

        int step(int job, int[] step) {
            if (job < 0 || job > 3 || step[4] < -1 || step[4] > 15 || bad(step[0], step[1], step[2], step[3])) {
                return -2;
            }
            if (counts[job] == 16) {
                return -3;
            }
            jobs[job][counts[job]] = step;
            return counts[job]++;
        }

        int clear(int job) {
            if (job < 0 || job > 3) {
                return -2;
            }
            int had = counts[job];
            counts[job] = 0;
            return had;
        }

        int run(int job, int way) {
            if (job < 0 || job > 3 || way < 0 || way > 1) {
                return -2;
            }
            told = new int[] {0, 0, 0, -1, 0};
            sum = 0;
            for (int i = 0; i < counts[job]; i++) {
                if (runOne(job, i)) {
                    continue;
                }
                int stead = jobs[job][i][4];
                boolean saved = false;
                if (stead >= 0 && stead < counts[job]) {
                    told[4]++;
                    saved = runOne(job, stead);
                }
                if (!saved && way == 0) {
                    break;
                }
            }
            return told[0];
        }

        boolean runOne(int job, int number) {
            int[] step = jobs[job][number];
            long outcome = act(step[0], step[1], step[2], step[3]);
            if (outcome < Integer.MIN_VALUE) {
                told[1]++;
                told[2] = (int) (outcome - Long.MIN_VALUE);
                told[3] = number;
                return false;
            }
            told[0]++;
            sum += outcome;
            return true;
        }

        int stand(int a, int what) {
            if (a < 0 || a > 3 || what < 0 || what > 7) {
                return Integer.MIN_VALUE;
            }
            Bike bike = stands[a];
            if (bike == null) {
                return 0;
            }
            switch (what) {
                case 0: return 1;
                case 1: return bike.frame;
                case 2:
                case 3: return bike.wheels[what - 2] == null ? 0 : bike.wheels[what - 2].spokes;
                case 4:
                case 5: return bike.wheels[what - 4] == null ? 0 : bike.wheels[what - 4].turns;
                case 6: return hangs(bike.wheels[0]) + 2 * hangs(bike.wheels[1]);
                default: return bike.lamp == null ? 0 : bike.lamp.charge;
            }
        }

        int hangs(Wheel wheel) {
            for (Wheel[] rack : racks) {
                for (int i = 0; wheel != null && rack != null && i < rack.length; i++) {
                    if (rack[i] == wheel) {
                        return 1;
                    }
                }
            }
            return 0;
        }

        int basket(int a, int i) {
            try {
                return baskets[a][i];
            } catch (NullPointerException | ArrayIndexOutOfBoundsException e) {
                return 0;
            }
        }

        int rack(int a, int i) {
            try {
                return racks[a][i].label();
            } catch (NullPointerException | ArrayIndexOutOfBoundsException e) {
                return Integer.MIN_VALUE;
            }
        }

        int grid(int a, int i, int j) {
            try {
                return grids[a][i][j];
            } catch (NullPointerException | ArrayIndexOutOfBoundsException e) {
                return 0;
            }
        }
    }

    private static final Random DRAWN = new Random(20261116L);

    public static void main(String[] args) {
        for (int run = 0; run < RUNS; run++) {
            CycleShop shop = new CycleShop();
            Model model = new Model();
            int kinds = 1 + DRAWN.nextInt(4);
            for (int call = 0; call < CALLS_OF_A_RUN; call++) {
                drawnCall(run, shop, model, kinds);
            }
            lookAtAll(run, shop, model);
        }
        Due.end();
    }

    private static int number() {
        return DRAWN.nextInt(3) == 0 ? NUMBERS[DRAWN.nextInt(NUMBERS.length)] : DRAWN.nextInt(4);
    }

    /** Mostly 0 .. below, at times just outside or far from it. */
    private static int index(int below) {
        int luck = DRAWN.nextInt(60);
        return luck == 0 ? below : luck == 1 ? -1 : luck == 2 ? number() : DRAWN.nextInt(below);
    }

    /** Steps that make anew come seldom, so that what was made is used for a while; of FIT every other wheel is a disc. */
    private static int drawnKind() {
        int kind = index(17);
        boolean makesAnew = kind == 0 || kind == 1 || (kind >= 7 && kind <= 9);
        return makesAnew && DRAWN.nextInt(4) != 0 ? 2 + DRAWN.nextInt(2) * 11 : kind;
    }

    /** A kind, a, b, c and a stead; few numbers for a, so that steps meet. */
    private static int[] drawnStep(int places) {
        int kind = drawnKind();
        int a = DRAWN.nextInt(40) == 0 ? index(4) : DRAWN.nextInt(places);
        int c = kind == 13 && DRAWN.nextInt(40) != 0 ? DRAWN.nextInt(places) : number();
        if (kind == 2 && DRAWN.nextInt(2) == 0) {
            c = 100 + DRAWN.nextInt(40);
        }
        int stead = DRAWN.nextInt(3) == 0 ? -1 : DRAWN.nextInt(20) == 0 ? index(16) : DRAWN.nextInt(8);
        return new int[] {kind, a, number(), c, stead};
    }

    private static void drawnCall(int run, CycleShop shop, Model model, int places) {
        int luck = DRAWN.nextInt(100);
        int[] s = drawnStep(places);
        int job = DRAWN.nextInt(40) == 0 ? index(4) : DRAWN.nextInt(places);
        String name = "run " + run + ": ";
        if (luck < 40) {
            String call = name + "act(" + s[0] + ", " + s[1] + ", " + s[2] + ", " + s[3] + ")";
            Due.is(call, shop.act(s[0], s[1], s[2], s[3]), model.act(s[0], s[1], s[2], s[3]));
        } else if (luck < 65) {
            Due.is(name + "step", shop.step(job, s[0], s[1], s[2], s[3], s[4]), model.step(job, s));
        } else if (luck < 80) {
            int way = index(2);
            Due.is(name + "run(" + job + ", " + way + ")", shop.run(job, way), model.run(job, way));
        } else if (luck < 82) {
            Due.is(name + "clear(" + job + ")", shop.clear(job), model.clear(job));
        } else if (luck < 88) {
            int what = index(5);
            Due.is(name + "told(" + what + ")", shop.told(what), what < 0 || what > 4 ? -2 : model.told[what]);
        } else if (luck < 92) {
            Due.is(name + "sum()", shop.sum(), model.sum);
        } else {
            int what = index(8);
            Due.is(name + "stand(" + s[1] + ", " + what + ")", shop.stand(s[1], what), model.stand(s[1], what));
        }
    }

    private static void lookAtAll(int run, CycleShop shop, Model model) {
        String name = "run " + run + ": ";
        for (int reason = 1; reason <= 7; reason++) {
            Due.is(name + "tally(" + reason + ")", shop.tally(reason), model.tallies[reason]);
        }
        for (int a = 0; a < 4; a++) {
            for (int what = 0; what < 8; what++) {
                Due.is(name + "stand(" + a + ", " + what + ")", shop.stand(a, what), model.stand(a, what));
            }
            for (int i = -1; i < 13; i++) {
                Due.is(name + "basket(" + a + ", " + i + ")", shop.basket(a, i), model.basket(a, i));
                Due.is(name + "rack(" + a + ", " + i + ")", shop.rack(a, i), model.rack(a, i));
            }
        }
        int a = DRAWN.nextInt(2);
        for (int i = 0; i < 12; i++) {
            for (int j = 0; j < 10; j++) {
                Due.is(name + "grid(" + a + ", " + i + ", " + j + ")", shop.grid(a, i, j), model.grid(a, i, j));
            }
        }
    }
}
