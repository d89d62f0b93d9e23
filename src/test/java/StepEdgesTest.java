/** Promises 16 and 17 at their edges: each sentence of the document that names one. */
public final class StepEdgesTest extends Deltas {
    private static final int[] OLD = mixed(256, 1);
    private static final int[] FRESH = joined(row(1, 2, 3), part(OLD, 0, 128));

    public static void main(String[] args) {
        beginRefusesOtherBlocks();
        beginRefusesOtherWindows();
        beginTakesTheLeastAndTheMost();
        beginRefusedLeavesAll();
        beginEndsWhatIsUnderWay();
        beginChangesNothingElse();
        firstStepSigns();
        firstStepOfNothing();
        secondStepPlansAndWrites();
        secondStepByTheSignatureThatThereIs();
        secondStepNotesNew();
        thirdStepReads();
        thirdStepIsRefused();
        thirdStepIsOther();
        thirdStepHasOldAsItIs();
        firstStepComesAgain();
        otherCallsAreNoSteps();
        stepsOfFullFiles();
        finish("StepEdgesTest");
    }

    /** An object whose next step is the one with this number. */
    private static DeltaFerry before(int step) {
        DeltaFerry x = with(OLD, FRESH);
        for (int i = 0; i < step; i++) {
            x.step();
        }
        return x;
    }

    // Promise 16: "false, refused, when block is not 4 .. 64".
    private static void beginRefusesOtherBlocks() {
        for (int block : row(3, 65, 0, 1, -1, -4, 128, MIN, MAX)) {
            DeltaFerry x = with(OLD, FRESH);
            due("begin with blocks of " + block, x.begin(block, 16), false);
            due("begin with blocks of " + block, x.begin(block, 256), false);
            due("BLOCK is 8 still", x.step(), 32);
        }
    }

    // Promise 16: "or window not 16 .. 256".
    private static void beginRefusesOtherWindows() {
        for (int window : row(15, 257, 0, 1, -1, -16, 512, MIN, MAX)) {
            DeltaFerry x = with(OLD, FRESH);
            due("begin with windows of " + window, x.begin(4, window), false);
            due("begin with windows of " + window, x.begin(64, window), false);
            due("begin with windows of " + window, x.begin(3, window), false);
            due("BLOCK is 8 still", x.step(), 32);
            x.step();
            due("WINDOW is 64 still", x.instruction(1, 1), 61);
        }
    }

    // Promise 16: "BLOCK and WINDOW become these".
    private static void beginTakesTheLeastAndTheMost() {
        int[][] blocks = {{4, 64}, {5, 51}, {63, 4}, {64, 4}};
        for (int[] pair : blocks) {
            for (int window : row(16, 17, 255, 256)) {
                DeltaFerry x = with(OLD, mixed(256, 2));
                due("begin", x.begin(pair[0], window), true);
                due("blocks of " + pair[0], x.step(), pair[1]);
                due("written", x.step() > 0, true);
                due("windows of " + window, x.instruction(0, 1), window);
                due("the last window", x.instruction(255 / window, 3), 255 / window);
                due("none behind", x.instruction(255 / window + 1, 3), NONE);
                due("read", x.step(), 256);
            }
        }
    }

    private static void beginRefusedLeavesAll() {
        for (int[] wrong : new int[][] {{3, 16}, {65, 16}, {4, 15}, {4, 257}}) {
            DeltaFerry x = before(1);
            due("refused before the second step", x.begin(wrong[0], wrong[1]), false);
            due("the second step", x.step(), x.size(2));
            due("WINDOW is 64 still", x.instruction(1, 1), 61);
            due("refused before the third step", x.begin(wrong[0], wrong[1]), false);
            due("the third step", x.step(), 131);
            due("refused before the first step", x.begin(wrong[0], wrong[1]), false);
            due("the first step, and BLOCK is 8 still", x.step(), 32);
        }
    }

    // Promise 16: "and nothing is under way".
    private static void beginEndsWhatIsUnderWay() {
        for (int done = 0; done <= 3; done++) {
            DeltaFerry x = before(done);
            due("begin behind " + done + " steps", x.begin(16, 32), true);
            due("the first step", x.step(), 16);
            due("the second step", x.step(), x.size(2));
            due("windows of 32", x.instruction(0, 1) + x.instruction(1, 1), 32);
            due("the third step", x.step(), 131);
            dueFile("the third step", x, 3, FRESH);
        }
    }

    private static void beginChangesNothingElse() {
        DeltaFerry x = before(3);
        int n = x.size(2);
        due("begin", x.begin(64, 256), true);
        duePlan("the plan", x, add(3, 0), copy(61, 0, 0), copy(64, 61, 1), copy(3, 125, 2));
        due("DELTA", x.size(2), n);
        dueFile("RESULT", x, 3, FRESH);
        due("the signature", x.scan(16) > 0, true);
        due("the signature has blocks of 8", x.instruction(1, 1), 13);
    }

    // Promise 17: "The first: sign(BLOCK); its answer."
    private static void firstStepSigns() {
        DeltaFerry x = with(OLD, FRESH);
        due("the first step", x.step(), 32);
        due("it makes no plan", x.instruction(0, 0), NONE);
        due("it writes nothing", x.size(2), 0);
        due("it reads nothing", x.size(3), 0);
        due("there is a signature", x.scan(256), 2);
    }

    private static void firstStepOfNothing() {
        DeltaFerry x = new DeltaFerry();
        due("the first step of nothing", x.step(), 0);
        due("the second step of nothing", x.step(), 5);
        due("the third step of nothing", x.step(), 0);
        due("the first step again", x.step(), 0);
        DeltaFerry y = with(EMPTY, FRESH);
        due("the first step without OLD", y.step(), 0);
        due("the second step without OLD", y.step(), y.size(2));
        due("it has no source", y.at(2, 5), 4);
        due("the third step without OLD", y.step(), 131);
        dueFile("the third step without OLD", y, 3, FRESH);
        DeltaFerry z = with(OLD, EMPTY);
        due("the first step without NEW", z.step(), 32);
        due("the second step without NEW", z.step(), 5);
        due("the third step without NEW", z.step(), 0);
    }

    // Promise 17: "The second: scan(WINDOW), encode(true) ...; what encode answers".
    private static void secondStepPlansAndWrites() {
        DeltaFerry x = before(1);
        x.differ(1, 16);
        int answer = x.step();
        due("how many bytes DELTA has", answer, x.size(2));
        duePlan("it scans", x, add(3, 0), copy(61, 0, 0), copy(64, 61, 1), copy(3, 125, 2));
        due("it is checked", x.at(2, 5), 5);
        due("it reads nothing", x.size(3), 0);
        DeltaFerry y = with(OLD, FRESH);
        y.sign(8);
        y.scan(64);
        due("the same as by hand", answer, y.encode(true));
        due("the same as by hand", x.digest(2, 0), y.digest(2, 0));
        due("the same as by hand", x.digest(2, 1), y.digest(2, 1));
    }

    private static void secondStepByTheSignatureThatThereIs() {
        DeltaFerry x = before(1);
        x.clear(0);
        x.step();
        duePlan("OLD as it was", x, add(3, 0), copy(61, 0, 0), copy(64, 61, 1), copy(3, 125, 2));
        DeltaFerry y = before(1);
        y.sign(64);
        y.step();
        duePlan("signed by hand since", y, add(3, 0), copy(61, 0, 0), copy(64, 61, 1), copy(3, 125, 2));
        DeltaFerry z = before(1);
        z.clear(0);
        z.sign(64);
        z.step();
        duePlan("signed by hand since", z, add(64, 0), add(64, 1), add(3, 2));
    }

    // Promise 17: "and the digest of NEW is noted".
    private static void secondStepNotesNew() {
        for (int way = 0; way < 4; way++) {
            DeltaFerry x = before(2);
            switch (way) {
                case 0: x.clear(1); break;
                case 1: x.set(1, 0, 99); break;
                case 2: x.put(1, 1, 1); break;
                default: x.copy(0, 1); break;
            }
            due("NEW as it was", x.step(), 131);
            dueFile("NEW as it was", x, 3, FRESH);
        }
        // What is noted is NEW at the second step, not at the first.
        DeltaFerry x = before(1);
        x.set(1, 0, 99);
        x.step();
        due("NEW at the second step", x.step(), 131);
        due("NEW at the second step", x.at(3, 0), 99);
    }

    // Promise 17: "The third: decode(); what it answers".
    private static void thirdStepReads() {
        DeltaFerry x = before(2);
        due("nothing is read yet", x.size(3), 0);
        due("the third step", x.step(), 131);
        dueFile("the third step", x, 3, FRESH);
    }

    private static int[] refusedDelta(int answer) {
        switch (answer) {
            case SECOND: return delta(row(0, 2, 0, 1));
            case LARGE: return delta(row(0, 2, 130, 45));
            case CHECK: return delta(window(row(4), 0, row(0, 0, 0, 0), EMPTY, EMPTY, EMPTY));
            case TABLE: return withTable(9, 0, EMPTY);
            default: return EMPTY;
        }
    }

    private static void thirdStepIsRefused() {
        for (int answer : row(BROKEN, SECOND, LARGE, TABLE, CHECK)) {
            DeltaFerry x = before(3);
            x.step();
            x.step();
            fill(x, 2, refusedDelta(answer));
            due("the third step is refused", x.step(), answer);
            dueFile("the RESULT stays", x, 3, FRESH);
            due("the first step comes next", x.step(), 32);
            due("the second step", x.step(), x.size(2));
            due("the third step", x.step(), 131);
        }
    }

    // Promise 17: "but OTHER when it does not refuse and the RESULT's digest is not the one noted".
    private static void thirdStepIsOther() {
        int[] longer = joined(FRESH, row(0));
        int[] another = FRESH.clone();
        another[130] ^= 1;
        for (int[] other : new int[][] {EMPTY, part(FRESH, 0, 130), longer, another, bytesOf("abc")}) {
            DeltaFerry x = before(2);
            fill(x, 2, delta(addition(other)));
            due("another RESULT", x.step(), OTHER);
            // "(the RESULT stays as it is then)": as the delta made it.
            dueFile("it stays as it is then", x, 3, other);
            due("the first step comes next", x.step(), 32);
        }
        DeltaFerry x = before(2);
        fill(x, 2, delta(addition(part(FRESH, 0, 100)), addition(part(FRESH, 100, 31))));
        due("the same by another delta", x.step(), 131);
        DeltaFerry y = with(OLD, EMPTY);
        y.step();
        y.step();
        fill(y, 2, delta(addition(1)));
        due("something, where nothing was noted", y.step(), OTHER);
        DeltaFerry z = with(OLD, EMPTY);
        z.step();
        z.step();
        fill(z, 2, delta(addition(EMPTY)));
        due("nothing, where nothing was noted", z.step(), 0);
    }

    private static void thirdStepHasOldAsItIs() {
        DeltaFerry x = before(2);
        x.set(0, 100, OLD[100] ^ 1);
        due("a byte of OLD is another", x.step(), CHECK);
        due("nothing is made", x.size(3), 0);
        DeltaFerry y = before(2);
        fill(y, 0, part(OLD, 0, 255));
        due("a byte of OLD is missing", y.step(), BROKEN);
        DeltaFerry z = before(2);
        z.put(0, 7, 8);
        due("OLD is longer", z.step(), 131);
    }

    // Promise 17: "The next of three steps; the first one again behind the last."
    private static void firstStepComesAgain() {
        DeltaFerry x = with(OLD, FRESH);
        for (int round = 0; round < 20; round++) {
            due("the first step, round " + round, x.step(), 32);
            due("the second step, round " + round, x.step(), x.size(2));
            due("the third step, round " + round, x.step(), 131);
            x.clear(2);
        }
        // The last RESULT becomes OLD, and another NEW comes.
        x.copy(3, 0);
        fill(x, 1, joined(part(FRESH, 8, 80), row(9)));
        due("the first step", x.step(), 16);
        due("the second step", x.step(), x.size(2));
        due("the third step", x.step(), 81);
    }

    private static void otherCallsAreNoSteps() {
        DeltaFerry x = with(OLD, FRESH);
        x.sign(8);
        x.scan(64);
        x.encode(true);
        x.decode();
        due("the first step", x.step(), 32);
        x.scan(16);
        x.differ(1, 16);
        x.encode(false);
        x.decode();
        due("the second step", x.step(), x.size(2));
        due("in windows of 64", x.instruction(1, 1), 61);
        x.sign(4);
        x.scan(16);
        x.encode(false);
        x.decode();
        due("the third step", x.step(), 131);
    }

    // The most that can be: 300 bytes of each, 662 of DELTA.
    private static void stepsOfFullFiles() {
        int[] old = mixed(300, 9);
        int[] fresh = mixed(300, 4);
        for (int end = 16; end < 300; end += 16) {
            System.arraycopy(old, 160, fresh, end - 2, 4);
        }
        DeltaFerry x = with(old, fresh);
        due("begin", x.begin(4, 16), true);
        due("the first step", x.step(), 75);
        due("the second step", x.step(), 662);
        due("the third step", x.step(), 300);
        dueFile("the third step", x, 3, fresh);
    }
}
