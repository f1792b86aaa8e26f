import java.util.Arrays;

/**
 * A shop for bicycles, as ../shared/DOC.md promises it.
 *
 * A step's outcome is one long: an int that was widened is its answer, and the least long
 * plus a reason says that it failed. No answer lies that low, so the two never meet.
 */
public final class CycleShop {
    public static final int NONE = -1, BAD = -2, FULL = -3;

    private static final int LEAST_INT = -2147483648;
    private static final long LEAST_LONG = -9223372036854775808L;

    private static final int PER_SORT = 4;
    private static final int LONGEST = 12;
    private static final int MOST_STEPS = 16;

    private static final int NOTHING = 1, SIZE = 2, INDEX = 3, STORE = 4, CAST = 5, LATE = 6, BROKEN = 7;

    private static final int BUILD = 0, STRIP = 1, FIT = 2, TRUE = 3, COUNT = 4, LIGHT = 5, SHINE = 6;
    private static final int BASKET = 7, RACK = 8, GRID = 9, LONG = 10, PUT = 11, ADD = 12;
    private static final int HANG = 13, BALANCE = 14, EXCUSE = 15, RAISE = 16;

    private final Stand[] stands = new Stand[PER_SORT];
    private final Basket[] baskets = new Basket[PER_SORT];
    private final Rack[] racks = new Rack[PER_SORT];
    private final Grid[] grids = new Grid[PER_SORT];
    private final Job[] jobs = new Job[PER_SORT];
    // An excuse is held as the reason that it is raised by.
    private final int[] excuses = new int[PER_SORT];
    private final int[] tallies = new int[BROKEN + 1];
    private final Report report = new Report();

    public CycleShop() {
        for (int i = 0; i < PER_SORT; i++) {
            stands[i] = new Stand();
            baskets[i] = new Basket();
            racks[i] = new Rack();
            grids[i] = new Grid();
            jobs[i] = new Job();
            excuses[i] = NOTHING;
        }
    }

    public long act(int kind, int a, int b, int c) {
        return isStep(kind, a, b, c) ? attempt(kind, a, b, c) : LEAST_LONG;
    }

    public int step(int job, int kind, int a, int b, int c, int stead) {
        boolean steadIsGood = stead == NONE || isWithin(stead, MOST_STEPS);
        if (!isWithin(job, PER_SORT) || !steadIsGood || !isStep(kind, a, b, c)) {
            return BAD;
        }
        return jobs[job].append(new Step(kind, a, b, c, stead));
    }

    public int clear(int job) {
        return isWithin(job, PER_SORT) ? jobs[job].empty() : BAD;
    }

    public int run(int job, int way) {
        if (!isWithin(job, PER_SORT) || !isWithin(way, 2)) {
            return BAD;
        }
        report.restart();
        Job steps = jobs[job];
        boolean goesOn = true;
        for (int i = 0; i < steps.count && goesOn; i++) {
            goesOn = isDone(steps, i) || isDoneInStead(steps, i) || way == 1;
        }
        return report.done;
    }

    public int told(int what) {
        switch (what) {
            case 0: return report.done;
            case 1: return report.failed;
            case 2: return report.reason;
            case 3: return report.reasonStep;
            case 4: return report.steads;
            default: return BAD;
        }
    }

    public long sum() {
        return report.sum;
    }

    public int tally(int reason) {
        return reason >= NOTHING && reason <= BROKEN ? tallies[reason] : BAD;
    }

    public int stand(int a, int what) {
        if (!isWithin(a, PER_SORT) || !isWithin(what, 8)) {
            return LEAST_INT;
        }
        return what == 6 ? hanging(stands[a]) : stands[a].tell(what);
    }

    public int basket(int a, int i) {
        return isWithin(a, PER_SORT) ? baskets[a].numberAt(i) : 0;
    }

    public int rack(int a, int i) {
        Wheel wheel = isWithin(a, PER_SORT) ? racks[a].wheelAt(i) : null;
        return wheel == null ? LEAST_INT : wheel.label();
    }

    public int grid(int a, int i, int j) {
        return isWithin(a, PER_SORT) ? grids[a].numberAt(i, j) : 0;
    }

    private static boolean isWithin(int index, int length) {
        return index >= 0 && index < length;
    }

    private static long failure(int reason) {
        return LEAST_LONG + reason;
    }

    private static int reasonOf(long outcome) {
        return outcome < LEAST_INT ? (int) (outcome - LEAST_LONG) : 0;
    }

    private static boolean isStep(int kind, int a, int b, int c) {
        if (!isWithin(a, PER_SORT)) {
            return false;
        }
        switch (kind) {
            case BASKET:
            case RACK: return b <= LONGEST;
            case GRID: return b <= LONGEST && c <= LONGEST;
            case HANG: return isWithin(c, PER_SORT);
            default: return kind >= BUILD && kind <= RAISE;
        }
    }

    private long attempt(int kind, int a, int b, int c) {
        long outcome = perform(kind, a, b, c);
        int reason = reasonOf(outcome);
        if (reason >= NOTHING && reason <= BROKEN) {
            tallies[reason]++;
        }
        return outcome;
    }

    // Its callers have asked isStep(), so that a, and c of HANG, are indices here.
    private long perform(int kind, int a, int b, int c) {
        switch (kind) {
            case BUILD: return stands[a].build(b);
            case STRIP: return stands[a].strip();
            case FIT: return stands[a].fit(b, c);
            case TRUE: return stands[a].trueWheel(b);
            case COUNT: return stands[a].countSpokes(b);
            case LIGHT: return stands[a].light(b, c);
            case SHINE: return stands[a].shine(b);
            case BASKET: return baskets[a].make(b);
            case RACK: return racks[a].make(b, (c & 1) != 0);
            case GRID: return grids[a].make(b, c);
            case LONG: return measure(a, b, c);
            case PUT: return baskets[a].put(b, c);
            case ADD: return grids[a].addOne(b, c);
            case HANG: return racks[a].hang(b, stands[c]);
            case BALANCE: return racks[a].balance(b);
            case EXCUSE: return excuse(a, b);
            case RAISE: return b == 0 ? 0 : failure(excuses[a]);
            default: return LEAST_LONG;
        }
    }

    private long measure(int a, int b, int c) {
        switch (b) {
            case 0: return lengthOrFailure(baskets[a].length);
            case 1: return lengthOrFailure(racks[a].length);
            case 2: return lengthOrFailure(grids[a].rows);
            default: return grids[a].rowLength(c);
        }
    }

    private static long lengthOrFailure(int length) {
        return length == NONE ? failure(NOTHING) : length;
    }

    private long excuse(int a, int b) {
        switch (b) {
            case 0: excuses[a] = NOTHING; break;
            case 1: excuses[a] = LATE; break;
            default: excuses[a] = BROKEN; break;
        }
        return b;
    }

    private boolean isDone(Job job, int number) {
        Step step = job.stepAt(number);
        if (step == null) {
            return false;
        }
        long outcome = attempt(step.kind, step.a, step.b, step.c);
        int reason = reasonOf(outcome);
        if (reason != 0) {
            report.addFailure(reason, number);
            return false;
        }
        report.addAnswer(outcome);
        return true;
    }

    private boolean isDoneInStead(Job job, int number) {
        Step step = job.stepAt(number);
        if (step == null || job.stepAt(step.stead) == null) {
            return false;
        }
        report.steads++;
        return isDone(job, step.stead);
    }

    private int hanging(Stand stand) {
        int bits = 0;
        for (int i = 0; i < PER_SORT; i++) {
            bits |= racks[i].holds(stand.front) ? 1 : 0;
            bits |= racks[i].holds(stand.rear) ? 2 : 0;
        }
        return bits;
    }

    private static final class Wheel {
        final int spokes;
        final boolean isDisc;
        int turns;

        Wheel(int spokes, boolean isDisc) {
            this.spokes = spokes;
            this.isDisc = isDisc;
        }

        int turn() {
            turns++;
            return turns * spokes + (isDisc ? 1 : 0);
        }

        int label() {
            return isDisc ? 1000 + spokes : spokes;
        }
    }

    // No two stands ever share a bike, so a stand is its own bike's row of parts and none is made anew.
    private static final class Stand {
        static final int NO_LAMP = 0, DYNAMO = 1, BATTERY = 2;

        boolean hasBike;
        int frame;
        Wheel front;
        Wheel rear;
        int lamp;
        int charge;

        long build(int newFrame) {
            strip();
            hasBike = true;
            frame = newFrame;
            return newFrame;
        }

        // The parts go too: what looks at a stand without a bike then finds none of them.
        long strip() {
            hasBike = false;
            frame = 0;
            front = null;
            rear = null;
            lamp = NO_LAMP;
            charge = 0;
            return 1;
        }

        Wheel wheel(int side) {
            return (side & 1) == 0 ? front : rear;
        }

        long fit(int side, int c) {
            if (!hasBike) {
                return failure(NOTHING);
            }
            boolean isDisc = c >= 100;
            Wheel fitted = c == 0 ? null : new Wheel(isDisc ? c - 100 : c, isDisc);
            if ((side & 1) == 0) {
                front = fitted;
            } else {
                rear = fitted;
            }
            return c;
        }

        long trueWheel(int side) {
            Wheel wheel = wheel(side);
            return wheel == null ? failure(NOTHING) : wheel.turn();
        }

        long countSpokes(int side) {
            Wheel wheel = wheel(side);
            return wheel == null ? failure(NOTHING) : wheel.spokes;
        }

        long light(int b, int c) {
            if (!hasBike) {
                return failure(NOTHING);
            }
            lamp = b == 0 ? NO_LAMP : b == 1 ? DYNAMO : BATTERY;
            charge = lamp == BATTERY ? c : 0;
            return b;
        }

        long shine(int b) {
            if (lamp == NO_LAMP) {
                return failure(NOTHING);
            }
            if (lamp == DYNAMO) {
                return 3 * b;
            }
            if (charge <= 0) {
                return 0;
            }
            charge--;
            return b;
        }

        int tell(int what) {
            switch (what) {
                case 0: return hasBike ? 1 : 0;
                case 1: return frame;
                case 2: return front == null ? 0 : front.spokes;
                case 3: return rear == null ? 0 : rear.spokes;
                case 4: return front == null ? 0 : front.turns;
                case 5: return rear == null ? 0 : rear.turns;
                case 7: return lamp == DYNAMO ? -1 : charge;
                default: return LEAST_INT;
            }
        }
    }

    // Rows have room for the longest from the start, so that a new one makes no array.
    private static final class Basket {
        final int[] numbers = new int[LONGEST];
        int length = NONE;

        long make(int newLength) {
            if (newLength < 0 || newLength > LONGEST) {
                return failure(SIZE);
            }
            Arrays.fill(numbers, 0);
            length = newLength;
            return newLength;
        }

        long put(int i, int number) {
            if (length == NONE) {
                return failure(NOTHING);
            }
            if (!isWithin(i, length)) {
                return failure(INDEX);
            }
            int before = numbers[i];
            numbers[i] = number;
            return before;
        }

        int numberAt(int i) {
            return isWithin(i, length) ? numbers[i] : 0;
        }
    }

    private static final class Rack {
        final Wheel[] places = new Wheel[LONGEST];
        int length = NONE;
        boolean isForDiscs;

        long make(int newLength, boolean forDiscs) {
            if (newLength < 0 || newLength > LONGEST) {
                return failure(SIZE);
            }
            for (int i = 0; i < LONGEST; i++) {
                places[i] = null;
            }
            length = newLength;
            isForDiscs = forDiscs;
            return newLength;
        }

        long hang(int i, Stand stand) {
            if (length == NONE || !stand.hasBike) {
                return failure(NOTHING);
            }
            if (!isWithin(i, length)) {
                return failure(INDEX);
            }
            Wheel wheel = stand.front;
            if (isForDiscs && wheel != null && !wheel.isDisc) {
                return failure(STORE);
            }
            places[i] = wheel;
            return 1;
        }

        long balance(int i) {
            if (length == NONE) {
                return failure(NOTHING);
            }
            if (!isWithin(i, length)) {
                return failure(INDEX);
            }
            Wheel wheel = places[i];
            if (wheel == null) {
                return failure(NOTHING);
            }
            if (!wheel.isDisc) {
                return failure(CAST);
            }
            wheel.turns = 0;
            return wheel.label();
        }

        Wheel wheelAt(int i) {
            return isWithin(i, length) ? places[i] : null;
        }

        boolean holds(Wheel wheel) {
            boolean found = false;
            for (int i = 0; i < length; i++) {
                found |= wheel != null && places[i] == wheel;
            }
            return found;
        }
    }

    private static final class Grid {
        final int[] numbers = new int[LONGEST * LONGEST];
        int rows = NONE;
        int columns;

        long make(int newRows, int newColumns) {
            if (newRows < 0 || newColumns < 0 || newRows > LONGEST || newColumns > LONGEST) {
                return failure(SIZE);
            }
            Arrays.fill(numbers, 0);
            rows = newRows;
            columns = newColumns;
            return newRows;
        }

        boolean has(int row, int column) {
            return isWithin(row, rows) && isWithin(column, columns);
        }

        long rowLength(int row) {
            if (rows == NONE) {
                return failure(NOTHING);
            }
            return isWithin(row, rows) ? columns : failure(INDEX);
        }

        long addOne(int row, int column) {
            if (rows == NONE) {
                return failure(NOTHING);
            }
            if (!has(row, column)) {
                return failure(INDEX);
            }
            int place = row * LONGEST + column;
            numbers[place]++;
            return numbers[place];
        }

        int numberAt(int row, int column) {
            return has(row, column) ? numbers[row * LONGEST + column] : 0;
        }
    }

    private static final class Step {
        final int kind;
        final int a;
        final int b;
        final int c;
        final int stead;

        Step(int kind, int a, int b, int c, int stead) {
            this.kind = kind;
            this.a = a;
            this.b = b;
            this.c = c;
            this.stead = stead;
        }
    }

    private static final class Job {
        final Step[] steps = new Step[MOST_STEPS];
        int count;

        int append(Step step) {
            if (count >= MOST_STEPS) {
                return FULL;
            }
            steps[count] = step;
            count++;
            return count - 1;
        }

        int empty() {
            int before = count;
            count = 0;
            return before;
        }

        Step stepAt(int number) {
            return isWithin(number, count) ? steps[number] : null;
        }
    }

    private static final class Report {
        int done;
        int failed;
        int reason;
        int reasonStep = NONE;
        int steads;
        long sum;

        void restart() {
            done = 0;
            failed = 0;
            reason = 0;
            reasonStep = NONE;
            steads = 0;
            sum = 0;
        }

        void addAnswer(long answer) {
            done++;
            sum += answer;
        }

        void addFailure(int newReason, int number) {
            failed++;
            reason = newReason;
            reasonStep = number;
        }
    }
}
