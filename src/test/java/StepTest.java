/** Promises 16 and 17: begin and step. */
public final class StepTest extends Deltas {
    public static void main(String[] args) {
        begin();
        steps();
        beginAnew();
        oldChanges();
        newChanges();
        deltaChanges();
        otherCalls();
        finish("StepTest");
    }

    private static void begin() {
        DeltaFerry x = with(mixed(128, 1), mixed(128, 1));
        int[][] wrong = {{3, 16}, {65, 16}, {4, 15}, {4, 257}, {0, 0}, {-1, -1},
            {Integer.MIN_VALUE, 16}, {Integer.MAX_VALUE, 16}, {4, Integer.MIN_VALUE}, {4, Integer.MAX_VALUE}};
        for (int[] pair : wrong) {
            due("begin " + pair[0] + " " + pair[1], x.begin(pair[0], pair[1]), false);
        }
        due("refused leaves BLOCK", x.step(), 16);
        due("refused", x.begin(4, 257), false);
        x.step();
        due("refused leaves what is under way, and WINDOW", x.instruction(1, 3), 1);
        due("third", x.step(), 128);
        int[][] right = {{4, 16, 32, 8}, {64, 256, 2, 1}, {4, 256, 32, 1}, {64, 16, 2, 8}};
        for (int[] four : right) {
            due("begin " + four[0] + " " + four[1], x.begin(four[0], four[1]), true);
            due("blocks", x.step(), four[2]);
            x.step();
            due("last window", x.instruction(four[3] - 1, 3), four[3] - 1);
            due("none behind", x.instruction(four[3], 3), NONE);
            due("third", x.step(), 128);
        }
    }

    private static void steps() {
        int[] old = mixed(24, 2);
        int[] fresh = joined(row(1, 2, 3), old);
        DeltaFerry x = with(old, fresh);
        for (int round = 0; round < 3; round++) {
            due("first", x.step(), 3);
            due("nothing is written yet", x.size(2), round == 0 ? 0 : 25);
            due("second", x.step(), 25);
            due("it is checked", x.at(2, 5), 5);
            due("nothing is read yet", x.size(3), round == 0 ? 0 : 27);
            due("third", x.step(), 27);
            dueFile("RESULT", x, 3, fresh);
        }
        DeltaFerry empty = new DeltaFerry();
        due("first, of nothing", empty.step(), 0);
        due("second, of nothing", empty.step(), 5);
        due("third, of nothing", empty.step(), 0);
        due("first again", empty.step(), 0);
    }

    private static void beginAnew() {
        DeltaFerry x = with(mixed(24, 2), mixed(16, 3));
        x.step();
        due("begin", x.begin(4, 16), true);
        due("first again", x.step(), 6);
        int second = x.step();
        due("second", x.size(2), second);
        due("begin", x.begin(12, 16), true);
        due("first again", x.step(), 2);
    }

    private static void oldChanges() {
        int[] old = mixed(24, 2);
        DeltaFerry x = with(old, old);
        x.step();
        x.step();
        x.set(0, 3, old[3] + 1);
        due("another OLD", x.step(), CHECK);
        dueFile("RESULT stays", x, 3);
        due("first again", x.step(), 3);
        x.step();
        due("third", x.step(), 24);
    }

    private static void newChanges() {
        int[] old = mixed(24, 2);
        DeltaFerry x = with(old, old);
        x.step();
        x.step();
        x.clear(1);
        due("NEW was noted", x.step(), 24);
        dueFile("RESULT", x, 3, old);
    }

    private static void deltaChanges() {
        DeltaFerry x = with(mixed(24, 2), mixed(30, 3));
        x.step();
        x.step();
        fill(x, 2, 214, 195, 196, 0, 0, 0, 7, 1, 0, 1, 1, 0, 'a', 2);
        due("another DELTA", x.step(), OTHER);
        dueFile("RESULT stays as it is", x, 3, 'a');
        due("first again", x.step(), 3);
        x.step();
        fill(x, 2, 214, 195, 196, 0, 0);
        due("a DELTA of nothing", x.step(), OTHER);
        dueFile("RESULT stays as it is", x, 3);
        x.step();
        x.step();
        fill(x, 2, 214, 195, 196, 0, 0, 0, 7, 1, 0, 1, 1, 0, 'a', 2);
        due("another DELTA", x.step(), OTHER);
        x.step();
        x.step();
        x.clear(2);
        due("no DELTA", x.step(), BROKEN);
        dueFile("RESULT stays", x, 3, 'a');
        due("first again", x.step(), 3);
    }

    private static void otherCalls() {
        int[] old = mixed(24, 2);
        DeltaFerry x = with(old, old);
        x.step();
        x.sign(12);
        x.scan(16);
        x.decode();
        x.step();
        due("a signature made between is used", x.instruction(0, 1), 24);
        x.clear(0);
        x.sign(4);
        fill(x, 0, old);
        due("third", x.step(), 24);
    }
}
