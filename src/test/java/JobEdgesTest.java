/** JOBS, STEADS and RUNS, promises 2 to 8: a method for each sentence that names a boundary case. */
public final class JobEdgesTest {
    private static final int NONE = CycleShop.NONE, BAD = CycleShop.BAD, FULL = CycleShop.FULL;
    private static final int LEAST = Integer.MIN_VALUE, MOST = Integer.MAX_VALUE;
    private static final int[] NOT_0_TO_3 = {-1, 4, -2, 5, LEAST, MOST};
    private static final int[] NOT_0_TO_16 = {-1, 17, -2, 18, LEAST, MOST};

    // Steps as kind, a, b, c. Each FAILING one fails on a new object by the REASON of its name.
    private static final int[] FAILING_NOTHING = {3, 3, 0, 0};
    private static final int[] FAILING_SIZE = {7, 3, -1, 0};
    // Each fails by the REASON that is its index, on an object as withAllReasons() makes it.
    private static final int[][] FAILING = {{}, FAILING_NOTHING, FAILING_SIZE, {14, 0, 2, 0}, {13, 1, 0, 0}, {14, 0, 0, 0},
        {16, 0, 1, 0}, {16, 1, 1, 0}};
    private static final int[] BUILD_5 = {0, 1, 5, 0};
    private static final int[] FIT_20 = {2, 1, 0, 20};
    private static final int[] TRUE_IT = {3, 1, 0, 0};
    private static final int[] STRIP_IT = {1, 1, 0, 0};

    public static void main(String[] args) {
        actTellsEachReason();
        actIsBad();
        jobsAreFour();
        sixteenStepsAtMost();
        stepIsBad();
        badIsToldAheadOfFull();
        stepsAreNotDoneYet();
        clearTellsHowMany();
        clearIsBad();
        clearLeavesTheRest();
        runOfNoSteps();
        runIsBad();
        runByWay0EndsBehindAFailure();
        runByWay1GoesOn();
        runGoesOnWhereTheSteadIsDone();
        runEndsWhereTheSteadFails();
        steadComesOnlyForAFailure();
        steadOfASteadDoesNotCome();
        steadThatIsItself();
        steadThatIsNotThere();
        steadAtTheEnds();
        whatWasDoneStays();
        toldBeforeARun();
        toldTheLatestReason();
        toldOfTheLatestRun();
        toldIsBad();
        sumIsALong();
        sumOfTheLatestRun();
        tallyCountsEach();
        tallyIsBad();
        Due.end();
    }

    private static CycleShop withSteps(int[][] steps, int... steads) {
        CycleShop shop = new CycleShop();
        for (int i = 0; i < steps.length; i++) {
            Due.step(shop, 0, steps[i], steads[i], i);
        }
        return shop;
    }

    private static void runs(CycleShop shop, int way, int done, int failed, int reason, int step, int steads) {
        Due.is("run(0, " + way + ")", shop.run(0, way), done);
        Due.told(shop, done, failed, reason, step, steads);
    }

    private static CycleShop withAllReasons() {
        CycleShop shop = new CycleShop();
        int[][] steps = {{0, 0, 1, 0}, {2, 0, 0, 9}, {8, 0, 2, 0}, {8, 1, 2, 1}, {13, 0, 0, 0}, {15, 0, 1, 0}, {15, 1, 2, 0}};
        for (int[] step : steps) {
            shop.act(step[0], step[1], step[2], step[3]);
        }
        return shop;
    }

    private static void actTellsEachReason() {
        Due.sentence("act: the least long and the REASON, if it FAILED");
        CycleShop shop = withAllReasons();
        long[] due = {0, -9223372036854775807L, -9223372036854775806L, -9223372036854775805L, -9223372036854775804L,
            -9223372036854775803L, -9223372036854775802L, -9223372036854775801L};
        for (int reason = 1; reason <= 7; reason++) {
            int[] step = FAILING[reason];
            Due.act(shop, step[0], step[1], step[2], step[3], due[reason]);
        }
    }

    private static void actIsBad() {
        Due.sentence("act: the least long: BAD (KIND, a, sizes above 12, c of HANG)");
        CycleShop shop = new CycleShop();
        for (int kind : NOT_0_TO_16) {
            Due.act(shop, kind, 0, 0, 0, Long.MIN_VALUE);
        }
        for (int kind = 0; kind <= 16; kind++) {
            for (int a : NOT_0_TO_3) {
                Due.act(shop, kind, a, 1, 1, Long.MIN_VALUE);
            }
        }
        for (int[] step : new int[][] {{7, 0, 13, 0}, {8, 0, 13, 0}, {9, 0, 13, 0}, {9, 0, 0, 13}, {13, 0, 0, -1}, {13, 0, 0, 4}}) {
            Due.act(shop, step[0], step[1], step[2], step[3], Long.MIN_VALUE);
        }
        for (int reason = 1; reason <= 7; reason++) {
            Due.is("tally(" + reason + ")", shop.tally(reason), 0);
        }
        // No other kind has a size or a stand in b or c.
        for (int kind : new int[] {0, 1, 2, 3, 4, 5, 6, 10, 11, 12, 14, 15, 16}) {
            Due.is("BAD is kind " + kind, shop.act(kind, 0, 13, 13) == Long.MIN_VALUE ? 1 : 0, 0);
            Due.is("BAD is kind " + kind, shop.act(kind, 3, MOST, LEAST) == Long.MIN_VALUE ? 1 : 0, 0);
        }
    }

    private static void jobsAreFour() {
        Due.sentence("JOBS 0 .. 3 have STEPS");
        CycleShop shop = new CycleShop();
        for (int job = 0; job < 4; job++) {
            for (int i = 0; i <= job; i++) {
                Due.step(shop, job, new int[] {0, job, 10 * job, 0}, NONE, i);
            }
        }
        for (int job = 0; job < 4; job++) {
            Due.is("run(" + job + ", 0)", shop.run(job, 0), job + 1);
            Due.is("sum()", shop.sum(), 10 * job * (job + 1));
        }
    }

    private static void sixteenStepsAtMost() {
        Due.sentence("STEPS, 16 at most, numbered from 0 on; FULL");
        CycleShop shop = new CycleShop();
        for (int i = 0; i < 16; i++) {
            Due.step(shop, 3, new int[] {0, 0, 1 << i, 0}, NONE, i);
        }
        for (int i = 0; i < 3; i++) {
            Due.step(shop, 3, new int[] {0, 0, 1 << 20, 0}, 0, FULL);
        }
        Due.step(shop, 2, BUILD_5, NONE, 0);
        Due.is("run(3, 0)", shop.run(3, 0), 16);
        Due.is("sum()", shop.sum(), 65535);
        Due.is("stand(0, 1)", shop.stand(0, 1), 1 << 15);
        Due.is("clear(3)", shop.clear(3), 16);
        Due.step(shop, 3, BUILD_5, NONE, 0);
    }

    private static void stepIsBad() {
        Due.sentence("step: BAD (also as act(); stead is not NONE, 0 .. 15)");
        CycleShop shop = new CycleShop();
        for (int number : NOT_0_TO_3) {
            Due.step(shop, number, BUILD_5, NONE, BAD);
            Due.step(shop, 0, new int[] {13, 0, 0, number}, NONE, BAD);
        }
        for (int kind = 0; kind <= 16; kind++) {
            for (int a : NOT_0_TO_3) {
                Due.step(shop, 0, new int[] {kind, a, 1, 1}, NONE, BAD);
            }
        }
        for (int kind : NOT_0_TO_16) {
            Due.step(shop, 0, new int[] {kind, 0, 0, 0}, NONE, BAD);
        }
        for (int[] step : new int[][] {{7, 0, 13, 0}, {8, 0, 13, 0}, {9, 0, 13, 0}, {9, 0, 0, 13}, {9, 0, -1, 13}, {7, 0, MOST, 0}}) {
            Due.step(shop, 0, step, NONE, BAD);
        }
        for (int stead : new int[] {-2, -3, 16, 17, LEAST, MOST}) {
            Due.step(shop, 0, BUILD_5, stead, BAD);
        }
        Due.is("clear(0)", shop.clear(0), 0);
        int number = 0;
        for (int[] good : new int[][] {{7, 0, 12, 13}, {8, 0, 12, 13}, {9, 3, 12, 12}, {9, 0, -1, LEAST}, {13, 0, 13, 3}, {16, 3, 13, 13}}) {
            Due.step(shop, 0, good, 15 - number, number);
            number++;
        }
        Due.step(shop, 0, BUILD_5, 0, number);
        Due.step(shop, 0, BUILD_5, NONE, number + 1);
    }

    private static void badIsToldAheadOfFull() {
        Due.sentence("step: BAD; FULL");
        CycleShop shop = new CycleShop();
        for (int i = 0; i < 16; i++) {
            Due.step(shop, 0, BUILD_5, NONE, i);
        }
        Due.step(shop, 0, new int[] {17, 0, 0, 0}, NONE, BAD);
        Due.step(shop, 0, new int[] {0, 4, 0, 0}, NONE, BAD);
        Due.step(shop, 0, new int[] {7, 0, 13, 0}, NONE, BAD);
        Due.step(shop, 0, BUILD_5, 16, BAD);
        Due.step(shop, 0, BUILD_5, 15, FULL);
    }

    private static void stepsAreNotDoneYet() {
        Due.sentence("step: a STEP behind those of a JOB, not done before a RUN");
        CycleShop shop = withSteps(new int[][] {BUILD_5, FAILING_SIZE}, NONE, NONE);
        Due.stand(shop, 1, 0, 0);
        Due.is("tally(2)", shop.tally(Due.SIZE), 0);
        Due.told(shop, 0, 0, 0, NONE, 0);
        runs(shop, 0, 1, 1, Due.SIZE, 1, 0);
        Due.stand(shop, 1, 1, 5);
    }

    private static void clearTellsHowMany() {
        Due.sentence("clear: a JOB has no STEPS: how many it had");
        CycleShop shop = new CycleShop();
        for (int count : new int[] {0, 1, 2, 15, 16, 0}) {
            for (int i = 0; i < count; i++) {
                Due.step(shop, 2, BUILD_5, NONE, i);
            }
            Due.is("clear(2)", shop.clear(2), count);
            Due.is("clear(2)", shop.clear(2), 0);
            Due.is("run(2, 0)", shop.run(2, 0), 0);
        }
        Due.stand(shop, 1, 0);
    }

    private static void clearIsBad() {
        Due.sentence("clear: BAD");
        CycleShop shop = withSteps(new int[][] {BUILD_5}, NONE);
        for (int job : NOT_0_TO_3) {
            Due.is("clear(" + job + ")", shop.clear(job), BAD);
        }
        Due.is("clear(0)", shop.clear(0), 1);
    }

    private static void clearLeavesTheRest() {
        Due.sentence("clear: of that JOB alone; what was told stays");
        CycleShop shop = withSteps(new int[][] {BUILD_5, FAILING_SIZE}, NONE, 0);
        Due.step(shop, 1, BUILD_5, NONE, 0);
        runs(shop, 0, 2, 1, Due.SIZE, 1, 1);
        Due.is("clear(0)", shop.clear(0), 2);
        Due.told(shop, 2, 1, Due.SIZE, 1, 1);
        Due.is("sum()", shop.sum(), 10);
        Due.is("tally(2)", shop.tally(Due.SIZE), 1);
        Due.stand(shop, 1, 1, 5);
        // A step of before is no stead any more.
        Due.step(shop, 0, FAILING_SIZE, 1, 0);
        runs(shop, 0, 0, 1, Due.SIZE, 0, 0);
        Due.is("run(1, 0)", shop.run(1, 0), 1);
    }

    private static void runOfNoSteps() {
        Due.sentence("run: how many were DONE: 0 of a JOB without STEPS, which is a RUN, too");
        CycleShop shop = new CycleShop();
        runs(shop, 0, 0, 0, 0, NONE, 0);
        Due.step(shop, 0, BUILD_5, NONE, 0);
        Due.step(shop, 0, FAILING_SIZE, 0, 1);
        runs(shop, 1, 2, 1, Due.SIZE, 1, 1);
        Due.is("run(3, 1)", shop.run(3, 1), 0);
        Due.told(shop, 0, 0, 0, NONE, 0);
        Due.is("sum()", shop.sum(), 0);
    }

    private static void runIsBad() {
        Due.sentence("run: BAD");
        CycleShop shop = withSteps(new int[][] {BUILD_5, FAILING_SIZE}, NONE, 0);
        for (int way : new int[] {-1, 2, 3, LEAST, MOST}) {
            Due.is("run(0, " + way + ")", shop.run(0, way), BAD);
        }
        Due.stand(shop, 1, 0);
        runs(shop, 0, 2, 1, Due.SIZE, 1, 1);
        for (int job : NOT_0_TO_3) {
            Due.is("run(" + job + ", 0)", shop.run(job, 0), BAD);
            Due.is("run(" + job + ", 1)", shop.run(job, 1), BAD);
        }
        Due.is("run(0, 2)", shop.run(0, 2), BAD);
        Due.told(shop, 2, 1, Due.SIZE, 1, 1);
        Due.is("sum()", shop.sum(), 10);
        Due.is("tally(2)", shop.tally(Due.SIZE), 1);
    }

    private static void runByWay0EndsBehindAFailure() {
        Due.sentence("a RUN by way 0 ends behind a STEP that has FAILED");
        for (int place = 0; place < 16; place++) {
            CycleShop shop = new CycleShop();
            for (int i = 0; i < 16; i++) {
                Due.step(shop, 0, i == place ? FAILING_SIZE : new int[] {0, 2, i + 1, 0}, NONE, i);
            }
            runs(shop, 0, place, 1, Due.SIZE, place, 0);
            Due.is("sum()", shop.sum(), place * (place + 1) / 2);
            Due.is("stand(2, 1)", shop.stand(2, 1), place);
        }
    }

    private static void runByWay1GoesOn() {
        Due.sentence("a RUN by way 1: its STEPS, one after the other, past those that have FAILED");
        for (int place = 0; place < 16; place++) {
            CycleShop shop = new CycleShop();
            for (int i = 0; i < 16; i++) {
                Due.step(shop, 0, i == place ? FAILING_SIZE : BUILD_5, NONE, i);
            }
            runs(shop, 1, 15, 1, Due.SIZE, place, 0);
            Due.is("sum()", shop.sum(), 75);
        }
    }

    private static void runGoesOnWhereTheSteadIsDone() {
        Due.sentence("where one FAILS, its STEAD comes; how many were DONE (STEADS, too)");
        for (int way = 0; way < 2; way++) {
            CycleShop shop = withSteps(new int[][] {FAILING_SIZE, BUILD_5, FIT_20}, 1, NONE, NONE);
            runs(shop, way, 3, 1, Due.SIZE, 0, 1);
            Due.is("sum()", shop.sum(), 30);
        }
    }

    private static void runEndsWhereTheSteadFails() {
        Due.sentence("ends behind a STEP that has FAILED, if its STEAD has not been DONE");
        CycleShop shop = withSteps(new int[][] {FAILING_SIZE, BUILD_5, FAILING_NOTHING}, 2, NONE, NONE);
        runs(shop, 0, 0, 2, Due.NOTHING, 2, 1);
        Due.stand(shop, 1, 0);
        runs(shop, 1, 1, 3, Due.NOTHING, 2, 1);
        Due.stand(shop, 1, 1, 5);
    }

    private static void steadComesOnlyForAFailure() {
        Due.sentence("a STEAD does not come where its STEP is DONE");
        CycleShop shop = withSteps(new int[][] {BUILD_5, FIT_20, TRUE_IT, STRIP_IT}, 3, 3, 3, 0);
        for (int way = 0; way < 2; way++) {
            runs(shop, way, 4, 0, 0, NONE, 0);
            Due.is("sum()", shop.sum(), 46);
        }
    }

    private static void steadOfASteadDoesNotCome() {
        Due.sentence("its STEAD comes (whose own STEAD does not)");
        CycleShop shop = withSteps(new int[][] {FAILING_SIZE, FAILING_NOTHING, BUILD_5}, 1, 2, NONE);
        runs(shop, 0, 0, 2, Due.NOTHING, 1, 1);
        Due.stand(shop, 1, 0);
        runs(shop, 1, 2, 3, Due.NOTHING, 1, 2);
        // Two that are each other's steads come once for each other, and no more.
        shop = withSteps(new int[][] {FAILING_SIZE, FAILING_NOTHING}, 1, 0);
        runs(shop, 0, 0, 2, Due.NOTHING, 1, 1);
        runs(shop, 1, 0, 4, Due.SIZE, 0, 2);
    }

    private static void steadThatIsItself() {
        Due.sentence("another STEP of the JOB, also itself");
        CycleShop shop = withSteps(new int[][] {FAILING_SIZE, BUILD_5}, 0, 1);
        runs(shop, 0, 0, 2, Due.SIZE, 0, 1);
        runs(shop, 1, 1, 2, Due.SIZE, 0, 1);
        Due.is("tally(2)", shop.tally(Due.SIZE), 4);
    }

    private static void steadThatIsNotThere() {
        Due.sentence("its STEAD, if it has one that there is; also one that is not there yet");
        CycleShop shop = withSteps(new int[][] {FAILING_SIZE, BUILD_5}, 2, NONE);
        runs(shop, 0, 0, 1, Due.SIZE, 0, 0);
        runs(shop, 1, 1, 1, Due.SIZE, 0, 0);
        Due.step(shop, 0, BUILD_5, NONE, 2);
        runs(shop, 0, 3, 1, Due.SIZE, 0, 1);
        shop = withSteps(new int[][] {FAILING_SIZE}, 15);
        runs(shop, 0, 0, 1, Due.SIZE, 0, 0);
        // A step of that number in another job is none of this one's.
        Due.step(shop, 1, BUILD_5, NONE, 0);
        Due.step(shop, 1, BUILD_5, NONE, 1);
        shop.clear(0);
        Due.step(shop, 0, FAILING_SIZE, 1, 0);
        runs(shop, 0, 0, 1, Due.SIZE, 0, 0);
    }

    private static void steadAtTheEnds() {
        Due.sentence("a STEAD by its number: the first, the last");
        CycleShop shop = new CycleShop();
        Due.step(shop, 0, BUILD_5, NONE, 0);
        Due.step(shop, 0, FAILING_SIZE, 0, 1);
        Due.step(shop, 0, FAILING_SIZE, 15, 2);
        for (int i = 3; i < 15; i++) {
            Due.step(shop, 0, FAILING_SIZE, i % 2 == 0 ? 0 : 15, i);
        }
        Due.step(shop, 0, new int[] {0, 2, 1000, 0}, NONE, 15);
        runs(shop, 0, 16, 14, Due.SIZE, 14, 14);
        Due.is("sum()", shop.sum(), 5 * 8 + 1000 * 8);
    }

    private static void whatWasDoneStays() {
        Due.sentence("what was done ahead of it stays");
        CycleShop shop = withSteps(new int[][] {BUILD_5, FIT_20, TRUE_IT, FAILING_SIZE, STRIP_IT}, NONE, NONE, NONE, 2, NONE);
        Due.step(shop, 1, TRUE_IT, NONE, 0);
        Due.step(shop, 1, FAILING_SIZE, NONE, 1);
        Due.step(shop, 1, STRIP_IT, NONE, 2);
        Due.is("run(1, 0)", shop.run(1, 0), 0);
        runs(shop, 0, 5, 1, Due.SIZE, 3, 1);
        Due.is("sum()", shop.sum(), 5 + 20 + 20 + 40 + 1);
        Due.act(shop, 0, 1, 6, 0, 6);
        Due.act(shop, 2, 1, 0, 30, 30);
        Due.is("run(1, 0)", shop.run(1, 0), 1);
        Due.stand(shop, 1, 1, 6, 30, 0, 1);
    }

    private static void toldBeforeARun() {
        Due.sentence("told: 0 (3: NONE) before one");
        CycleShop shop = withSteps(new int[][] {FAILING_SIZE}, NONE);
        Due.fails(shop, 7, 0, -1, 0, Due.SIZE);
        Due.act(shop, 0, 0, 9, 0, 9);
        Due.is("run(0, 2)", shop.run(0, 2), BAD);
        Due.told(shop, 0, 0, 0, NONE, 0);
        Due.is("sum()", shop.sum(), 0);
    }

    private static void toldTheLatestReason() {
        Due.sentence("told: 2 the latest REASON (0: none), 3 the STEP that had it (NONE)");
        CycleShop shop = withSteps(new int[][] {FAILING_SIZE, FAILING_NOTHING, BUILD_5}, NONE, NONE, NONE);
        runs(shop, 1, 1, 2, Due.NOTHING, 1, 0);
        shop = withSteps(new int[][] {FAILING_NOTHING, FAILING_SIZE, BUILD_5}, NONE, NONE, NONE);
        runs(shop, 1, 1, 2, Due.SIZE, 1, 0);
        // The stead had the latest one, though its number is the lower one.
        shop = withSteps(new int[][] {FAILING_NOTHING, FAILING_SIZE}, NONE, 0);
        runs(shop, 1, 0, 3, Due.NOTHING, 0, 1);
        // The stead is done, so that the step itself had the latest one.
        shop = withSteps(new int[][] {FAILING_NOTHING, FAILING_SIZE, BUILD_5}, 2, 2, NONE);
        runs(shop, 0, 3, 2, Due.SIZE, 1, 2);
        shop = withSteps(new int[][] {BUILD_5}, 0);
        runs(shop, 0, 1, 0, 0, NONE, 0);
    }

    private static void toldOfTheLatestRun() {
        Due.sentence("told: of the latest RUN");
        CycleShop shop = withSteps(new int[][] {FAILING_SIZE, BUILD_5}, 1, NONE);
        Due.step(shop, 1, BUILD_5, NONE, 0);
        runs(shop, 0, 2, 1, Due.SIZE, 0, 1);
        runs(shop, 0, 2, 1, Due.SIZE, 0, 1);
        Due.fails(shop, 3, 3, 0, 0, Due.NOTHING);
        Due.act(shop, 0, 3, 9, 0, 9);
        Due.told(shop, 2, 1, Due.SIZE, 0, 1);
        Due.is("sum()", shop.sum(), 10);
        Due.is("run(1, 0)", shop.run(1, 0), 1);
        Due.told(shop, 1, 0, 0, NONE, 0);
        Due.is("sum()", shop.sum(), 5);
    }

    private static void toldIsBad() {
        Due.sentence("told: BAD");
        CycleShop shop = new CycleShop();
        for (int what : new int[] {-1, 5, 6, LEAST, MOST}) {
            Due.is("told(" + what + ")", shop.told(what), BAD);
        }
    }

    private static void sumIsALong() {
        Due.sentence("sum: of all ANSWERS in the latest RUN (as longs)");
        for (int number : new int[] {MOST, LEAST}) {
            CycleShop shop = new CycleShop();
            for (int i = 0; i < 16; i++) {
                Due.step(shop, 0, i < 15 ? FAILING_SIZE : new int[] {0, 0, number, 0}, 15, i);
            }
            runs(shop, 0, 16, 15, Due.SIZE, 14, 15);
            Due.is("sum()", shop.sum(), 16L * number);
        }
        CycleShop shop = withSteps(new int[][] {{0, 0, MOST, 0}, {0, 0, 1, 0}, {0, 0, LEAST, 0}, {0, 0, -1, 0}}, NONE, NONE, NONE, NONE);
        runs(shop, 0, 4, 0, 0, NONE, 0);
        Due.is("sum()", shop.sum(), -1);
    }

    private static void sumOfTheLatestRun() {
        Due.sentence("sum: 0 before; what FAILED has no ANSWER");
        CycleShop shop = new CycleShop();
        Due.act(shop, 0, 0, 9, 0, 9);
        Due.is("sum()", shop.sum(), 0);
        for (int reason = 1; reason <= 7; reason++) {
            shop = withAllReasons();
            Due.step(shop, 0, BUILD_5, NONE, 0);
            Due.step(shop, 0, FAILING[reason], 1, 1);
            runs(shop, 1, 1, 2, reason, 1, 1);
            Due.is("sum()", shop.sum(), 5);
        }
    }

    private static void tallyCountsEach() {
        Due.sentence("tally: how often a REASON (1 .. 7) was had ever");
        for (int reason = 1; reason <= 7; reason++) {
            CycleShop shop = withAllReasons();
            int[] step = FAILING[reason];
            Due.step(shop, 0, step, 1, 0);
            Due.step(shop, 0, step, NONE, 1);
            for (int time = 1; time <= 3; time++) {
                Due.fails(shop, step[0], step[1], step[2], step[3], reason);
                Due.is("run(0, 1)", shop.run(0, 1), 0);
                for (int other = 1; other <= 7; other++) {
                    Due.is("tally(" + other + ")", shop.tally(other), other == reason ? 4 * time : 0);
                }
            }
            shop.clear(0);
            Due.is("run(0, 0)", shop.run(0, 0), 0);
            Due.is("tally(" + reason + ")", shop.tally(reason), 12);
        }
    }

    private static void tallyIsBad() {
        Due.sentence("tally: BAD");
        CycleShop shop = withAllReasons();
        for (int reason : new int[] {0, 8, -1, 9, LEAST, MOST}) {
            Due.is("tally(" + reason + ")", shop.tally(reason), BAD);
        }
    }
}
