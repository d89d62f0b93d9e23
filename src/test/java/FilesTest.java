/** Promises 1 to 7: a new object, put, set, copy, clear, size and at. */
public final class FilesTest {
    private static final int MIN = Integer.MIN_VALUE, MAX = Integer.MAX_VALUE;

    public static void main(String[] args) {
        newObject();
        newObjectSteps();
        put();
        putRoom();
        set();
        copy();
        clear();
        sizeAndAt();
        Checks.finish("FilesTest");
    }

    private static void newObject() {
        DeltaFerry x = new DeltaFerry();
        for (int file = 0; file < 4; file++) {
            Checks.dueFile("new file " + file, x, file);
        }
        Checks.due("new: no plan", x.instruction(0, 0), DeltaFerry.NONE);
        Checks.due("new: no plan to write", x.encode(false), DeltaFerry.NONE);
        Checks.due("new: no signature", x.scan(16), DeltaFerry.NONE);
        Checks.due("new: DELTA is empty", x.decode(), DeltaFerry.BROKEN);
    }

    private static void newObjectSteps() {
        DeltaFerry x = new DeltaFerry();
        Checks.fill(x, 0, Checks.mixed(23, 1));
        Checks.fill(x, 1, Checks.mixed(130, 2));
        Checks.due("new: the first step signs blocks of 8", x.step(), 2);
        x.step();
        Checks.duePlan("new: windows of 64", x,
            Checks.row(1, 64, -1, 0), Checks.row(1, 64, -1, 1), Checks.row(1, 2, -1, 2));
        Checks.due("new: the third step", x.step(), 130);
    }

    private static void put() {
        DeltaFerry x = new DeltaFerry();
        Checks.due("put 8", x.put(0, 0x8877665544332211L, 8), true);
        Checks.due("put 1", x.put(0, -1L, 1), true);
        Checks.due("put 3", x.put(0, 0x7f01020304L, 3), true);
        Checks.dueFile("put", x, 0, 0x11, 0x22, 0x33, 0x44, 0x55, 0x66, 0x77, 0x88, 255, 4, 3, 2);
        for (int n : Checks.row(0, -1, 9, MIN, MAX)) {
            Checks.due("put n " + n, x.put(0, 5, n), false);
        }
        for (int file : Checks.row(-1, 3, 4, MIN, MAX)) {
            Checks.due("put file " + file, x.put(file, 5, 1), false);
        }
        Checks.due("put: refused leaves OLD", x.size(0), 12);
        Checks.due("put: refused leaves RESULT", x.size(3), 0);
        Checks.due("put 1", x.put(1, 9, 1), true);
        Checks.due("put 2", x.put(2, 8, 1), true);
        Checks.dueFile("put NEW", x, 1, 9);
        Checks.dueFile("put DELTA", x, 2, 8);
    }

    private static void putRoom() {
        for (int file = 0; file < 3; file++) {
            DeltaFerry x = new DeltaFerry();
            int room = file == 2 ? 700 : 300;
            Checks.fill(x, file, Checks.times(room - 4, 7));
            Checks.due("put 5 into room for 4", x.put(file, 0, 5), false);
            Checks.due("put 8 into room for 4", x.put(file, 0, 8), false);
            Checks.due("put 4 into room for 4", x.put(file, 0x04030201, 4), true);
            Checks.due("put 1 into no room", x.put(file, 0, 1), false);
            Checks.due("size", x.size(file), room);
            Checks.due("last byte", x.at(file, room - 1), 4);
            Checks.due("behind it", x.at(file, room), DeltaFerry.NONE);
        }
    }

    private static void set() {
        DeltaFerry x = new DeltaFerry();
        for (int file = 0; file < 3; file++) {
            Checks.due("set in an empty file", x.set(file, 0, 1), false);
            Checks.fill(x, file, 1, 2, 3);
            Checks.due("set", x.set(file, 0, 256 + 77), true);
            Checks.due("set", x.set(file, 2, -1), true);
            for (int at : Checks.row(-1, 3, MIN, MAX)) {
                Checks.due("set at " + at, x.set(file, at, 1), false);
            }
            Checks.dueFile("set", x, file, 77, 2, 255);
        }
        x.clear(2);
        Checks.fill(x, 2, Checks.joined(Checks.row(214, 195, 196, 0, 0, 0, 7, 1, 0, 1, 1, 0), Checks.row(65, 2)));
        Checks.due("decode", x.decode(), 1);
        for (int file : Checks.row(-1, 3, 4, MIN, MAX)) {
            Checks.due("set file " + file, x.set(file, 0, 1), false);
        }
        Checks.dueFile("set leaves RESULT", x, 3, 65);
    }

    private static void copy() {
        DeltaFerry x = new DeltaFerry();
        Checks.fill(x, 0, 1, 2, 3);
        Checks.fill(x, 2, 214, 195, 196, 0, 0, 0, 7, 1, 0, 1, 1, 0, 65, 2);
        Checks.due("decode", x.decode(), 1);
        Checks.due("copy RESULT to NEW", x.copy(3, 1), true);
        Checks.dueFile("copy 3 1", x, 1, 65);
        Checks.due("copy OLD to NEW", x.copy(0, 1), true);
        Checks.dueFile("copy 0 1", x, 1, 1, 2, 3);
        Checks.due("copy NEW to itself", x.copy(1, 1), true);
        Checks.dueFile("copy 1 1", x, 1, 1, 2, 3);
        x.set(0, 0, 9);
        Checks.dueFile("a copy is its own", x, 1, 1, 2, 3);
        for (int file : Checks.row(-1, 3, 4, MIN, MAX)) {
            Checks.due("copy to " + file, x.copy(0, file), false);
        }
        for (int file : Checks.row(-1, 4, MIN, MAX)) {
            Checks.due("copy from " + file, x.copy(file, 0), false);
        }
        Checks.dueFile("copy leaves RESULT", x, 3, 65);
        Checks.fill(x, 2, Checks.times(301, 4));
        Checks.due("copy of 301 bytes to OLD", x.copy(2, 0), false);
        Checks.due("copy of 301 bytes to NEW", x.copy(2, 1), false);
        Checks.due("copy of 301 bytes to DELTA", x.copy(2, 2), true);
        Checks.dueFile("copy refused leaves OLD", x, 0, 9, 2, 3);
        Checks.fill(x, 2, Checks.times(300, 4));
        Checks.due("copy of 300 bytes", x.copy(2, 0), true);
        Checks.dueFile("copy of 300 bytes", x, 0, Checks.times(300, 4));
        x.clear(1);
        Checks.due("copy of an empty file", x.copy(1, 0), true);
        Checks.dueFile("copy of an empty file", x, 0);
    }

    private static void clear() {
        DeltaFerry x = new DeltaFerry();
        for (int file = 0; file < 3; file++) {
            Checks.due("clear an empty file", x.clear(file), 0);
            Checks.fill(x, file, 1, 2, 3);
            Checks.due("clear", x.clear(file), 3);
            Checks.dueFile("clear", x, file);
        }
        Checks.fill(x, 2, 214, 195, 196, 0, 0, 0, 7, 1, 0, 1, 1, 0, 65, 2);
        Checks.due("decode", x.decode(), 1);
        Checks.due("clear RESULT", x.clear(3), 1);
        Checks.dueFile("clear RESULT", x, 3);
        for (int file : Checks.row(-1, 4, MIN, MAX)) {
            Checks.due("clear " + file, x.clear(file), DeltaFerry.NONE);
        }
    }

    private static void sizeAndAt() {
        DeltaFerry x = new DeltaFerry();
        Checks.fill(x, 1, 0, 255);
        Checks.due("size", x.size(1), 2);
        Checks.due("at 0", x.at(1, 0), 0);
        Checks.due("at 1", x.at(1, 1), 255);
        for (int i : Checks.row(-1, 2, MIN, MAX)) {
            Checks.due("at " + i, x.at(1, i), DeltaFerry.NONE);
        }
        for (int file : Checks.row(-1, 4, MIN, MAX)) {
            Checks.due("size " + file, x.size(file), DeltaFerry.NONE);
            Checks.due("at of " + file, x.at(file, 0), DeltaFerry.NONE);
        }
    }
}
