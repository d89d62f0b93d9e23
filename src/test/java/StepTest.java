/** Promises 16 and 17: begin and step. */
public final class StepTest {
    public static void main(String[] args) {
        begin();
        steps();
        beginAnew();
        oldChanges();
        newChanges();
        deltaChanges();
        otherCalls();
        Checks.finish("StepTest");
    }

    private static DeltaFerry with(int[] old, int[] fresh) {
        DeltaFerry x = new DeltaFerry();
        Checks.fill(x, 0, old);
        Checks.fill(x, 1, fresh);
        return x;
    }

    private static void begin() {
        DeltaFerry x = with(Checks.mixed(128, 1), Checks.mixed(128, 1));
        int[][] wrong = {{3, 16}, {65, 16}, {4, 15}, {4, 257}, {0, 0}, {-1, -1},
            {Integer.MIN_VALUE, 16}, {Integer.MAX_VALUE, 16}, {4, Integer.MIN_VALUE}, {4, Integer.MAX_VALUE}};
        for (int[] pair : wrong) {
            Checks.due("begin " + pair[0] + " " + pair[1], x.begin(pair[0], pair[1]), false);
        }
        Checks.due("refused leaves BLOCK", x.step(), 16);
        Checks.due("refused", x.begin(4, 257), false);
        x.step();
        Checks.due("refused leaves what is under way, and WINDOW", x.instruction(1, 3), 1);
        Checks.due("third", x.step(), 128);
        int[][] right = {{4, 16, 32, 8}, {64, 256, 2, 1}, {4, 256, 32, 1}, {64, 16, 2, 8}};
        for (int[] four : right) {
            Checks.due("begin " + four[0] + " " + four[1], x.begin(four[0], four[1]), true);
            Checks.due("blocks", x.step(), four[2]);
            x.step();
            Checks.due("last window", x.instruction(four[3] - 1, 3), four[3] - 1);
            Checks.due("none behind", x.instruction(four[3], 3), DeltaFerry.NONE);
            Checks.due("third", x.step(), 128);
        }
    }

    private static void steps() {
        int[] old = Checks.mixed(24, 2);
        int[] fresh = Checks.joined(Checks.row(1, 2, 3), old);
        DeltaFerry x = with(old, fresh);
        for (int round = 0; round < 3; round++) {
            Checks.due("first", x.step(), 3);
            Checks.due("nothing is written yet", x.size(2), round == 0 ? 0 : 25);
            Checks.due("second", x.step(), 25);
            Checks.due("it is checked", x.at(2, 5), 5);
            Checks.due("nothing is read yet", x.size(3), round == 0 ? 0 : 27);
            Checks.due("third", x.step(), 27);
            Checks.dueFile("RESULT", x, 3, fresh);
        }
        DeltaFerry empty = new DeltaFerry();
        Checks.due("first, of nothing", empty.step(), 0);
        Checks.due("second, of nothing", empty.step(), 5);
        Checks.due("third, of nothing", empty.step(), 0);
        Checks.due("first again", empty.step(), 0);
    }

    private static void beginAnew() {
        DeltaFerry x = with(Checks.mixed(24, 2), Checks.mixed(16, 3));
        x.step();
        Checks.due("begin", x.begin(4, 16), true);
        Checks.due("first again", x.step(), 6);
        int second = x.step();
        Checks.due("second", x.size(2), second);
        Checks.due("begin", x.begin(12, 16), true);
        Checks.due("first again", x.step(), 2);
    }

    private static void oldChanges() {
        int[] old = Checks.mixed(24, 2);
        DeltaFerry x = with(old, old);
        x.step();
        x.step();
        x.set(0, 3, old[3] + 1);
        Checks.due("another OLD", x.step(), DeltaFerry.CHECK);
        Checks.dueFile("RESULT stays", x, 3);
        Checks.due("first again", x.step(), 3);
        x.step();
        Checks.due("third", x.step(), 24);
    }

    private static void newChanges() {
        int[] old = Checks.mixed(24, 2);
        DeltaFerry x = with(old, old);
        x.step();
        x.step();
        x.clear(1);
        Checks.due("NEW was noted", x.step(), 24);
        Checks.dueFile("RESULT", x, 3, old);
    }

    private static void deltaChanges() {
        DeltaFerry x = with(Checks.mixed(24, 2), Checks.mixed(30, 3));
        x.step();
        x.step();
        Checks.fill(x, 2, 214, 195, 196, 0, 0, 0, 7, 1, 0, 1, 1, 0, 'a', 2);
        Checks.due("another DELTA", x.step(), DeltaFerry.OTHER);
        Checks.dueFile("RESULT stays as it is", x, 3, 'a');
        Checks.due("first again", x.step(), 3);
        x.step();
        Checks.fill(x, 2, 214, 195, 196, 0, 0);
        Checks.due("a DELTA of nothing", x.step(), DeltaFerry.OTHER);
        Checks.dueFile("RESULT stays as it is", x, 3);
        x.step();
        x.step();
        Checks.fill(x, 2, 214, 195, 196, 0, 0, 0, 7, 1, 0, 1, 1, 0, 'a', 2);
        Checks.due("another DELTA", x.step(), DeltaFerry.OTHER);
        x.step();
        x.step();
        x.clear(2);
        Checks.due("no DELTA", x.step(), DeltaFerry.BROKEN);
        Checks.dueFile("RESULT stays", x, 3, 'a');
        Checks.due("first again", x.step(), 3);
    }

    private static void otherCalls() {
        int[] old = Checks.mixed(24, 2);
        DeltaFerry x = with(old, old);
        x.step();
        x.sign(12);
        x.scan(16);
        x.decode();
        x.step();
        Checks.due("a signature made between is used", x.instruction(0, 1), 24);
        x.clear(0);
        x.sign(4);
        Checks.fill(x, 0, old);
        Checks.due("third", x.step(), 24);
    }
}
