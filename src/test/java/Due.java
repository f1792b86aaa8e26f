/** Counts the answers of one test that are not the ones that are due. */
final class Due {
    static final long FAILED = Long.MIN_VALUE;
    static final int LEAST = Integer.MIN_VALUE;
    static final int NOTHING = 1, SIZE = 2, INDEX = 3, STORE = 4, CAST = 5, LATE = 6, BROKEN = 7;

    private static int wrong = 0;
    private static String sentence = "";

    private Due() {
    }

    /** The sentence of the document that the checks behind this call are about; wrong answers are printed with it. */
    static void sentence(String words) {
        sentence = words + ": ";
    }

    static void is(String call, long got, long want) {
        if (got != want) {
            wrong++;
            System.out.println(sentence + call + " answered " + got + ", due is " + want);
        }
    }

    static void act(CycleShop shop, int kind, int a, int b, int c, long want) {
        is("act(" + kind + ", " + a + ", " + b + ", " + c + ")", shop.act(kind, a, b, c), want);
    }

    static void fails(CycleShop shop, int kind, int a, int b, int c, int reason) {
        act(shop, kind, a, b, c, FAILED + reason);
    }

    static void step(CycleShop shop, int job, int[] step, int stead, int want) {
        String call = "step(" + job + ", " + step[0] + ", " + step[1] + ", " + step[2] + ", " + step[3] + ", " + stead + ")";
        is(call, shop.step(job, step[0], step[1], step[2], step[3], stead), want);
    }

    static void stand(CycleShop shop, int a, int... want) {
        for (int what = 0; what < want.length; what++) {
            is("stand(" + a + ", " + what + ")", shop.stand(a, what), want[what]);
        }
    }

    static void told(CycleShop shop, int done, int failed, int reason, int step, int steads) {
        int[] want = {done, failed, reason, step, steads};
        for (int what = 0; what < want.length; what++) {
            is("told(" + what + ")", shop.told(what), want[what]);
        }
    }

    static void end() {
        System.out.println(wrong == 0 ? "all answers are as due" : wrong + " answers are not as due");
        if (wrong != 0) {
            System.exit(1);
        }
    }
}
