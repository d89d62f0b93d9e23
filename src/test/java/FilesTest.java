/** Promises 1 to 7: a new object, put, set, copy, clear, size and at. */
public final class FilesTest extends Deltas {
    public static void main(String[] args) {
        newObject();
        newObjectSteps();
        put();
        putRoom();
        set();
        copy();
        clear();
        sizeAndAt();
        finish("FilesTest");
    }

    private static void newObject() {
        DeltaFerry x = new DeltaFerry();
        for (int file = 0; file < 4; file++) {
            dueFile("new file " + file, x, file);
        }
        due("new: no plan", x.instruction(0, 0), NONE);
        due("new: no plan to write", x.encode(false), NONE);
        due("new: no signature", x.scan(16), NONE);
        due("new: DELTA is empty", x.decode(), BROKEN);
    }

    private static void newObjectSteps() {
        DeltaFerry x = new DeltaFerry();
        fill(x, 0, mixed(23, 1));
        fill(x, 1, mixed(130, 2));
        due("new: the first step signs blocks of 8", x.step(), 2);
        x.step();
        duePlan("new: windows of 64", x,
            row(1, 64, -1, 0), row(1, 64, -1, 1), row(1, 2, -1, 2));
        due("new: the third step", x.step(), 130);
    }

    private static void put() {
        DeltaFerry x = new DeltaFerry();
        due("put 8", x.put(0, 0x8877665544332211L, 8), true);
        due("put 1", x.put(0, -1L, 1), true);
        due("put 3", x.put(0, 0x7f01020304L, 3), true);
        dueFile("put", x, 0, 0x11, 0x22, 0x33, 0x44, 0x55, 0x66, 0x77, 0x88, 255, 4, 3, 2);
        for (int n : row(0, -1, 9, MIN, MAX)) {
            due("put n " + n, x.put(0, 5, n), false);
        }
        for (int file : row(-1, 3, 4, MIN, MAX)) {
            due("put file " + file, x.put(file, 5, 1), false);
        }
        due("put: refused leaves OLD", x.size(0), 12);
        due("put: refused leaves RESULT", x.size(3), 0);
        due("put 1", x.put(1, 9, 1), true);
        due("put 2", x.put(2, 8, 1), true);
        dueFile("put NEW", x, 1, 9);
        dueFile("put DELTA", x, 2, 8);
    }

    private static void putRoom() {
        for (int file = 0; file < 3; file++) {
            DeltaFerry x = new DeltaFerry();
            int room = file == 2 ? 700 : 300;
            fill(x, file, times(room - 4, 7));
            due("put 5 into room for 4", x.put(file, 0, 5), false);
            due("put 8 into room for 4", x.put(file, 0, 8), false);
            due("put 4 into room for 4", x.put(file, 0x04030201, 4), true);
            due("put 1 into no room", x.put(file, 0, 1), false);
            due("size", x.size(file), room);
            due("last byte", x.at(file, room - 1), 4);
            due("behind it", x.at(file, room), NONE);
        }
    }

    private static void set() {
        DeltaFerry x = new DeltaFerry();
        for (int file = 0; file < 3; file++) {
            due("set in an empty file", x.set(file, 0, 1), false);
            fill(x, file, 1, 2, 3);
            due("set", x.set(file, 0, 256 + 77), true);
            due("set", x.set(file, 2, -1), true);
            for (int at : row(-1, 3, MIN, MAX)) {
                due("set at " + at, x.set(file, at, 1), false);
            }
            dueFile("set", x, file, 77, 2, 255);
        }
        x.clear(2);
        fill(x, 2, joined(row(214, 195, 196, 0, 0, 0, 7, 1, 0, 1, 1, 0), row(65, 2)));
        due("decode", x.decode(), 1);
        for (int file : row(-1, 3, 4, MIN, MAX)) {
            due("set file " + file, x.set(file, 0, 1), false);
        }
        dueFile("set leaves RESULT", x, 3, 65);
    }

    private static void copy() {
        DeltaFerry x = new DeltaFerry();
        fill(x, 0, 1, 2, 3);
        fill(x, 2, 214, 195, 196, 0, 0, 0, 7, 1, 0, 1, 1, 0, 65, 2);
        due("decode", x.decode(), 1);
        due("copy RESULT to NEW", x.copy(3, 1), true);
        dueFile("copy 3 1", x, 1, 65);
        due("copy OLD to NEW", x.copy(0, 1), true);
        dueFile("copy 0 1", x, 1, 1, 2, 3);
        due("copy NEW to itself", x.copy(1, 1), true);
        dueFile("copy 1 1", x, 1, 1, 2, 3);
        x.set(0, 0, 9);
        dueFile("a copy is its own", x, 1, 1, 2, 3);
        for (int file : row(-1, 3, 4, MIN, MAX)) {
            due("copy to " + file, x.copy(0, file), false);
        }
        for (int file : row(-1, 4, MIN, MAX)) {
            due("copy from " + file, x.copy(file, 0), false);
        }
        dueFile("copy leaves RESULT", x, 3, 65);
        fill(x, 2, times(301, 4));
        due("copy of 301 bytes to OLD", x.copy(2, 0), false);
        due("copy of 301 bytes to NEW", x.copy(2, 1), false);
        due("copy of 301 bytes to DELTA", x.copy(2, 2), true);
        dueFile("copy refused leaves OLD", x, 0, 9, 2, 3);
        fill(x, 2, times(300, 4));
        due("copy of 300 bytes", x.copy(2, 0), true);
        dueFile("copy of 300 bytes", x, 0, times(300, 4));
        x.clear(1);
        due("copy of an empty file", x.copy(1, 0), true);
        dueFile("copy of an empty file", x, 0);
    }

    private static void clear() {
        DeltaFerry x = new DeltaFerry();
        for (int file = 0; file < 3; file++) {
            due("clear an empty file", x.clear(file), 0);
            fill(x, file, 1, 2, 3);
            due("clear", x.clear(file), 3);
            dueFile("clear", x, file);
        }
        fill(x, 2, 214, 195, 196, 0, 0, 0, 7, 1, 0, 1, 1, 0, 65, 2);
        due("decode", x.decode(), 1);
        due("clear RESULT", x.clear(3), 1);
        dueFile("clear RESULT", x, 3);
        for (int file : row(-1, 4, MIN, MAX)) {
            due("clear " + file, x.clear(file), NONE);
        }
    }

    private static void sizeAndAt() {
        DeltaFerry x = new DeltaFerry();
        fill(x, 1, 0, 255);
        due("size", x.size(1), 2);
        due("at 0", x.at(1, 0), 0);
        due("at 1", x.at(1, 1), 255);
        for (int i : row(-1, 2, MIN, MAX)) {
            due("at " + i, x.at(1, i), NONE);
        }
        for (int file : row(-1, 4, MIN, MAX)) {
            due("size " + file, x.size(file), NONE);
            due("at of " + file, x.at(file, 0), NONE);
        }
    }
}
