/** Promises 1 to 7 at their edges: each sentence of the document that names one. */
public final class FilesEdgesTest extends Deltas {
    private static final int[] NO_FILES = {-1, 4, -4, 7, MIN, MAX};
    private static final int[] NO_FILES_TO_WRITE = {-1, 3, 4, -4, 7, MIN, MAX};

    public static void main(String[] args) {
        filesAreAtFirstEmpty();
        thereIsAtFirstNoSignature();
        thereIsAtFirstNoPlan();
        nothingIsUnderWayAtFirst();
        blockIsEightAtFirst();
        windowIsSixtyFourAtFirst();
        objectsAreApart();
        putTakesTheLowestBytes();
        putRefusesOtherCounts();
        putRefusesOtherFiles();
        putRefusesWhatHasNoRoom();
        putGoesBehindWhatIsLeft();
        setTakesTheLowestEightBits();
        setChangesOneByte();
        setRefusesPlacesThatThereAreNot();
        setRefusesOtherFiles();
        setRefusesPlacesThatThereWere();
        copyOfEachFileToEach();
        copyRefusesOtherFiles();
        copyRefusesWhatIsTooLong();
        copyOfAFullFile();
        copyOfAFileToItself();
        copyOfAnEmptyFile();
        copiesAreApart();
        clearTellsHowManyThereWere();
        clearRefusesOtherFiles();
        sizeIsFromNothingToAll();
        sizeRefusesOtherFiles();
        atIsFromTheFirstToTheLast();
        atRefusesOtherFiles();
        finish("FilesEdgesTest");
    }

    private static int room(int file) {
        return file == 2 ? 700 : 300;
    }

    // Promise 1: "As said" - the files are "at first empty".
    private static void filesAreAtFirstEmpty() {
        DeltaFerry x = new DeltaFerry();
        for (int file = 0; file < 4; file++) {
            due("a new file's size", x.size(file), 0);
            due("a new file's first byte", x.at(file, 0), NONE);
            due("a new file's digest", x.digest(file, 0), digest(0));
            due("a new file's digest", x.digest(file, 1), digest(1));
            due("a new file's check", x.sum(file, 0, 0), 1);
            due("a new file's weak sum", x.sum(file, 0, 1), NONE);
            due("a new file has a byte to set", x.set(file, 0, 1), false);
            due("a new file has bytes to clear", x.clear(file), 0);
        }
        due("a new DELTA", x.decode(), BROKEN);
    }

    // Promise 1: the signature is "at first none".
    private static void thereIsAtFirstNoSignature() {
        DeltaFerry x = with("abcdefghijkl", "abcdefghijkl");
        due("scan of a new object", x.scan(16), NONE);
        due("scan of a new object", x.scan(256), NONE);
        due("it has made no plan", x.instruction(0, 0), NONE);
        due("sign refused", x.sign(3), NONE);
        due("scan behind a sign that is refused", x.scan(16), NONE);
        due("sign", x.sign(4), 3);
        due("scan", x.scan(16), 1);
    }

    // Promise 1: the plan is "at first none".
    private static void thereIsAtFirstNoPlan() {
        DeltaFerry x = new DeltaFerry();
        for (int what = 0; what < 4; what++) {
            due("instruction of a new object", x.instruction(0, what), NONE);
        }
        due("encode of a new object", x.encode(false), NONE);
        due("encode of a new object", x.encode(true), NONE);
        due("DELTA stays", x.size(2), 0);
        due("differ of nothing", x.differ(1, 16), 0);
        due("is a plan, of nothing", x.encode(false), 5);
    }

    // Promise 1: "nothing is under way".
    private static void nothingIsUnderWayAtFirst() {
        DeltaFerry x = with(mixed(32, 1), mixed(32, 1));
        due("the first step of a new object signs", x.step(), 4);
        due("and writes nothing", x.size(2), 0);
        due("and plans nothing", x.instruction(0, 0), NONE);
        due("scan now", x.scan(256), 1);
    }

    // Promise 1: "BLOCK 8".
    private static void blockIsEightAtFirst() {
        int[][] sizes = {{7, 0}, {8, 1}, {15, 1}, {16, 2}, {300, 37}};
        for (int[] pair : sizes) {
            DeltaFerry x = with(mixed(pair[0], 1), EMPTY);
            due("the first step of " + pair[0], x.step(), pair[1]);
        }
    }

    // Promise 1: "WINDOW 64".
    private static void windowIsSixtyFourAtFirst() {
        DeltaFerry x = with(EMPTY, mixed(64, 2));
        x.step();
        x.step();
        duePlan("64 bytes are a window", x, add(64, 0));
        x = with(EMPTY, mixed(65, 2));
        x.step();
        x.step();
        duePlan("65 bytes are two", x, add(64, 0), add(1, 1));
    }

    private static void objectsAreApart() {
        DeltaFerry x = with("abcd", "abcd");
        DeltaFerry y = new DeltaFerry();
        due("differ", x.differ(1, 16), 1);
        x.sign(4);
        x.begin(4, 16);
        x.step();
        due("another object's file", y.size(0), 0);
        due("another object's plan", y.instruction(0, 0), NONE);
        due("another object's signature", y.scan(16), NONE);
        fill(y, 0, mixed(16, 1));
        due("another object's steps and BLOCK", y.step(), 2);
    }

    // Promise 2: "Puts the n lowest of eight bytes behind a file, the lowest one first."
    private static void putTakesTheLowestBytes() {
        int[] all = {0x88, 0x87, 0x86, 0x85, 0x84, 0x83, 0x82, 0x81};
        for (int file = 0; file < 3; file++) {
            for (int n = 1; n <= 8; n++) {
                DeltaFerry x = new DeltaFerry();
                due("put of " + n, x.put(file, 0x8182838485868788L, n), true);
                dueFile("put of " + n, x, file, part(all, 0, n));
                due("put of " + n, x.put(file, -1, n), true);
                dueFile("put of " + n + " more", x, file, joined(part(all, 0, n), times(n, 255)));
            }
        }
    }

    // Promise 2: "false, refused, when n is not 1 .. 8".
    private static void putRefusesOtherCounts() {
        for (int file = 0; file < 3; file++) {
            DeltaFerry x = new DeltaFerry();
            fill(x, file, "abc");
            for (int n : row(0, 9, -1, -8, 16, 64, 257, MIN, MIN + 1, MAX)) {
                due("put of " + n, x.put(file, 0x4142434445464748L, n), false);
            }
            dueFile("put refused", x, file, bytesOf("abc"));
        }
    }

    // Promise 2: "file not 0 .. 2".
    private static void putRefusesOtherFiles() {
        DeltaFerry x = with("old", "new");
        giveResult(x, bytesOf("result"));
        for (int file : NO_FILES_TO_WRITE) {
            due("put to " + file, x.put(file, 65, 1), false);
            due("put to " + file, x.put(file, 65, 8), false);
        }
        dueFile("put refused", x, 0, bytesOf("old"));
        dueFile("put refused", x, 1, bytesOf("new"));
        dueFile("put refused", x, 2);
        dueFile("put refused", x, 3, bytesOf("result"));
    }

    // Promise 2: "or there is no room for them" - "DELTA has at most 700 bytes, each other one at most 300".
    private static void putRefusesWhatHasNoRoom() {
        for (int file = 0; file < 3; file++) {
            for (int n = 1; n <= 8; n++) {
                int[] most = mixed(room(file) - n, n);
                DeltaFerry x = new DeltaFerry();
                fill(x, file, most);
                due("put of " + n + " into as much room", x.put(file, 0, n), true);
                dueFile("put of " + n + " into as much room", x, file, joined(most, times(n, 0)));
                due("put of 1 into a full file", x.put(file, 0, 1), false);
                due("put of 8 into a full file", x.put(file, 0, 8), false);
                int[] more = mixed(room(file) - n + 1, n);
                DeltaFerry y = new DeltaFerry();
                fill(y, file, more);
                due("put of " + n + " into room for one less", y.put(file, 0, n), false);
                dueFile("put of " + n + " into room for one less", y, file, more);
            }
        }
    }

    private static void putGoesBehindWhatIsLeft() {
        for (int file = 0; file < 3; file++) {
            DeltaFerry x = new DeltaFerry();
            fill(x, file, times(room(file), 7));
            x.clear(file);
            due("put into a file that was full", x.put(file, 0x0201, 2), true);
            dueFile("put into a file that was full", x, file, 1, 2);
        }
    }

    // Promise 3: "A byte of a file becomes the lowest eight bits of b."
    private static void setTakesTheLowestEightBits() {
        int[][] values = {{0, 0}, {1, 1}, {127, 127}, {128, 128}, {255, 255}, {256, 0}, {257, 1}, {511, 255},
            {-1, 255}, {-128, 128}, {-256, 0}, {-257, 255}, {MIN, 0}, {MIN + 5, 5}, {MAX, 255}};
        for (int file = 0; file < 3; file++) {
            DeltaFerry x = new DeltaFerry();
            fill(x, file, 9);
            for (int[] pair : values) {
                due("set to " + pair[0], x.set(file, 0, pair[0]), true);
                dueFile("set to " + pair[0], x, file, pair[1]);
            }
        }
    }

    private static void setChangesOneByte() {
        for (int file = 0; file < 3; file++) {
            for (int at = 0; at < 3; at++) {
                DeltaFerry x = with("OLD", "NEW");
                fill(x, 2, "DEL");
                int[][] want = {bytesOf("OLD"), bytesOf("NEW"), bytesOf("DEL")};
                due("set", x.set(file, at, 65 + at), true);
                want[file][at] = 65 + at;
                for (int other = 0; other < 3; other++) {
                    dueFile("set of file " + file, x, other, want[other]);
                }
            }
        }
    }

    // Promise 3: "false, refused, when ... has no such place".
    private static void setRefusesPlacesThatThereAreNot() {
        for (int file = 0; file < 3; file++) {
            for (int n : row(0, 1, 8, room(file))) {
                DeltaFerry x = new DeltaFerry();
                int[] bytes = mixed(n, 3);
                fill(x, file, bytes);
                for (int at : row(-1, n, n + 1, -n - 1, 700, 701, 1 << 16, MIN, MAX)) {
                    due("set of place " + at + " of " + n, x.set(file, at, 1), false);
                }
                dueFile("set refused", x, file, bytes);
                due("set of the first place of " + n, x.set(file, 0, bytes.length > 0 ? bytes[0] : 1), n > 0);
                due("set of the last place of " + n, x.set(file, n - 1, 77), n > 0);
                due("the last place", x.at(file, n - 1), n > 0 ? 77 : NONE);
            }
        }
    }

    // Promise 3: "when file is not 0 .. 2".
    private static void setRefusesOtherFiles() {
        DeltaFerry x = with("old", "new");
        giveResult(x, bytesOf("result"));
        for (int file : NO_FILES_TO_WRITE) {
            due("set of file " + file, x.set(file, 0, 65), false);
            due("set of file " + file, x.set(file, 2, 65), false);
        }
        dueFile("set refused", x, 0, bytesOf("old"));
        dueFile("set refused", x, 1, bytesOf("new"));
        dueFile("set refused", x, 3, bytesOf("result"));
    }

    private static void setRefusesPlacesThatThereWere() {
        DeltaFerry x = with("abcdef", "xy");
        due("copy of a shorter file", x.copy(1, 0), true);
        due("set of a place that there was", x.set(0, 2, 65), false);
        due("set of the last place now", x.set(0, 1, 65), true);
        x.clear(0);
        due("set of a place that there was", x.set(0, 0, 65), false);
    }

    private static int[][] fourFiles() {
        return new int[][] {bytesOf("the old one"), bytesOf("new"), mixed(100, 4), bytesOf("a result")};
    }

    private static DeltaFerry withFourFiles(int[][] bytes) {
        DeltaFerry x = new DeltaFerry();
        giveResult(x, bytes[3]);
        for (int file = 0; file < 3; file++) {
            fill(x, file, bytes[file]);
        }
        return x;
    }

    // Promise 4: "A file becomes as another one (or itself) is. Answers true".
    private static void copyOfEachFileToEach() {
        for (int from = 0; from < 4; from++) {
            for (int to = 0; to < 3; to++) {
                int[][] want = fourFiles();
                DeltaFerry x = withFourFiles(want);
                due("copy of " + from + " to " + to, x.copy(from, to), true);
                want[to] = want[from];
                for (int file = 0; file < 4; file++) {
                    dueFile("copy of " + from + " to " + to + ": file " + file, x, file, want[file]);
                }
            }
        }
    }

    // Promise 4: "false, refused, when from is not 0 .. 3, to not 0 .. 2".
    private static void copyRefusesOtherFiles() {
        int[][] want = fourFiles();
        DeltaFerry x = withFourFiles(want);
        for (int from : NO_FILES) {
            for (int to = 0; to < 3; to++) {
                due("copy of " + from + " to " + to, x.copy(from, to), false);
            }
        }
        for (int to : NO_FILES_TO_WRITE) {
            for (int from = 0; from < 4; from++) {
                due("copy of " + from + " to " + to, x.copy(from, to), false);
            }
            due("copy of -1 to " + to, x.copy(-1, to), false);
            due("copy of 4 to " + to, x.copy(4, to), false);
        }
        for (int file = 0; file < 4; file++) {
            dueFile("copy refused: file " + file, x, file, want[file]);
        }
    }

    // Promise 4: "or it would be too long".
    private static void copyRefusesWhatIsTooLong() {
        for (int to = 0; to < 2; to++) {
            for (int n : row(299, 300, 301, 302, 700)) {
                int[] bytes = mixed(n, 5);
                DeltaFerry x = new DeltaFerry();
                fill(x, to, "abc");
                fill(x, 2, bytes);
                due("copy of " + n + " to " + to, x.copy(2, to), n <= 300);
                dueFile("copy of " + n + " to " + to, x, to, n <= 300 ? bytes : bytesOf("abc"));
                dueFile("copy of " + n + " to " + to + " leaves DELTA", x, 2, bytes);
            }
        }
    }

    private static void copyOfAFullFile() {
        int[] bytes = mixed(300, 6);
        DeltaFerry x = new DeltaFerry();
        giveResult(x, bytes);
        for (int to = 0; to < 3; to++) {
            fill(x, to, "abc");
            due("copy of a full RESULT", x.copy(3, to), true);
            dueFile("copy of a full RESULT", x, to, bytes);
        }
        due("copy of a full OLD", x.copy(0, 1), true);
        due("copy of a full NEW", x.copy(1, 0), true);
        dueFile("copy of a full NEW", x, 0, bytes);
    }

    // Promise 4: "(or itself)".
    private static void copyOfAFileToItself() {
        for (int file = 0; file < 3; file++) {
            for (int n : row(0, 1, room(file))) {
                DeltaFerry x = new DeltaFerry();
                fill(x, file, mixed(n, 7));
                due("copy of " + file + " to itself", x.copy(file, file), true);
                dueFile("copy of " + file + " to itself", x, file, mixed(n, 7));
            }
        }
    }

    private static void copyOfAnEmptyFile() {
        for (int from = 0; from < 4; from++) {
            for (int to = 0; to < 3; to++) {
                DeltaFerry x = new DeltaFerry();
                if (from != to) {
                    fill(x, to, mixed(room(to), 8));
                }
                due("copy of an empty file", x.copy(from, to), true);
                dueFile("copy of an empty file", x, to);
                due("it is empty", x.set(to, 0, 1), false);
            }
        }
    }

    private static void copiesAreApart() {
        DeltaFerry x = with("abc", "xyz");
        due("copy", x.copy(0, 1), true);
        x.set(0, 0, 'A');
        x.set(1, 2, 'C');
        x.put(0, 'D', 1);
        dueFile("copies are apart", x, 0, bytesOf("AbcD"));
        dueFile("copies are apart", x, 1, bytesOf("abC"));
        x.clear(0);
        dueFile("copies are apart", x, 1, bytesOf("abC"));
    }

    // Promise 5: "A file becomes empty: how many bytes it had".
    private static void clearTellsHowManyThereWere() {
        for (int file = 0; file < 4; file++) {
            for (int n : row(0, 1, 255, 256, room(file))) {
                DeltaFerry x = with("o", "n");
                giveResult(x, 'r');
                fill(x, 2, "d");
                if (file == 3) {
                    giveResult(x, mixed(n, 9));
                    fill(x, 2, "d");
                } else {
                    fill(x, file, mixed(n, 9));
                }
                due("clear of " + n, x.clear(file), n);
                due("clear again", x.clear(file), 0);
                for (int other = 0; other < 4; other++) {
                    dueFile("clear of " + file, x, other, other == file ? EMPTY : row("ondr".charAt(other)));
                }
            }
        }
    }

    // Promise 5: "NONE when file is not 0 .. 3".
    private static void clearRefusesOtherFiles() {
        int[][] want = fourFiles();
        DeltaFerry x = withFourFiles(want);
        for (int file : NO_FILES) {
            due("clear of " + file, x.clear(file), NONE);
        }
        for (int file = 0; file < 4; file++) {
            dueFile("clear refused: file " + file, x, file, want[file]);
        }
    }

    // Promise 6: "How many bytes a file has".
    private static void sizeIsFromNothingToAll() {
        for (int file = 0; file < 3; file++) {
            DeltaFerry x = new DeltaFerry();
            due("size of nothing", x.size(file), 0);
            x.put(file, 0, 1);
            due("size of a byte 0", x.size(file), 1);
            fill(x, file, times(room(file), 0));
            due("size of a full file", x.size(file), room(file));
            x.put(file, 0, 1);
            due("size behind a put that is refused", x.size(file), room(file));
        }
        DeltaFerry x = new DeltaFerry();
        giveResult(x, times(300, 0));
        due("size of a full RESULT", x.size(3), 300);
    }

    // Promise 6: "NONE when file is not 0 .. 3".
    private static void sizeRefusesOtherFiles() {
        DeltaFerry x = withFourFiles(fourFiles());
        for (int file : NO_FILES) {
            due("size of " + file, x.size(file), NONE);
        }
        due("size of the first file", x.size(0), 11);
        due("size of the last file", x.size(3), 8);
    }

    // Promise 7: "The byte at a place of a file; NONE when there is none."
    private static void atIsFromTheFirstToTheLast() {
        for (int file = 0; file < 4; file++) {
            for (int n : row(0, 1, 2, room(file))) {
                int[] bytes = times(n, 255);
                DeltaFerry x = new DeltaFerry();
                if (file == 3) {
                    giveResult(x, bytes);
                } else {
                    fill(x, file, bytes);
                }
                due("the first of " + n, x.at(file, 0), n > 0 ? 255 : NONE);
                due("the last of " + n, x.at(file, n - 1), n > 0 ? 255 : NONE);
                for (int i : row(n, n + 1, -1, -n - 1, 700, 1 << 16, MIN, MAX)) {
                    due("the byte " + i + " of " + n, x.at(file, i), NONE);
                }
                x.clear(file);
                due("a byte that there was", x.at(file, 0), NONE);
            }
        }
    }

    private static void atRefusesOtherFiles() {
        DeltaFerry x = withFourFiles(fourFiles());
        for (int file : NO_FILES) {
            due("a byte of " + file, x.at(file, 0), NONE);
        }
    }
}
