/** Bytes that are a delta, or nearly so, put together by hand; and what reading them must answer. */
abstract class Deltas extends Checks {
    static final int[] HEAD = {214, 195, 196, 0, 0};
    static final int[] TABLE_HEAD = {214, 195, 196, 0, 2};
    static final int[] EMPTY = {};
    /** The source of a table's delta: all of THE TABLE. */
    static final int[] WHOLE_TABLE = {1, 140, 0, 0};

    static int[] number(int value) {
        return bytesOf(Model.number(value));
    }

    static int[] delta(int[]... windows) {
        return joined(HEAD, joined(windows));
    }

    /** A window: the bytes before its length, its size, and its three parts. */
    static int[] window(int[] kind, int size, int[] data, int[] codes, int[] addresses) {
        return window(kind, size, EMPTY, data, codes, addresses);
    }

    static int[] window(int[] kind, int size, int[] check, int[] data, int[] codes, int[] addresses) {
        int[] body = joined(number(size), row(0), number(data.length), number(codes.length),
            number(addresses.length), check, data, codes, addresses);
        return joined(kind, number(body.length), body);
    }

    /** A check as it is told: four bytes, the highest first. */
    static int[] told(long check) {
        return row((int) (check >> 24) & 255, (int) (check >> 16) & 255, (int) (check >> 8) & 255, (int) check & 255);
    }

    /** A window without a source that adds some bytes. */
    static int[] addition(int... bytes) {
        return window(row(0), bytes.length, bytes, joined(row(1), number(bytes.length)), EMPTY);
    }

    static int[] addition(String text) {
        return addition(bytesOf(text));
    }

    /** A delta that makes THE TABLE with other bytes at some places, told in pairs, the places going up. */
    static int[] tableDelta(int... changes) {
        return delta(tableWindow(1536, changes));
    }

    static int[] tableWindow(int size, int... changes) {
        int[] data = EMPTY;
        int[] codes = EMPTY;
        int[] addresses = EMPTY;
        int place = 0;
        for (int i = 0; i < changes.length; i += 2) {
            if (changes[i] > place) {
                codes = joined(codes, row(19), number(changes[i] - place));
                addresses = joined(addresses, number(place));
            }
            codes = joined(codes, row(2));
            data = joined(data, row(changes[i + 1]));
            place = changes[i] + 1;
        }
        if (place < size) {
            codes = joined(codes, row(19), number(size - place));
            addresses = joined(addresses, number(place));
        }
        return window(WHOLE_TABLE, size, data, codes, addresses);
    }

    static int[] withTable(int near, int same, int[] table, int[]... windows) {
        return joined(TABLE_HEAD, number(2 + table.length), row(near, same), table, joined(windows));
    }

    static DeltaFerry read(String what, int[] old, int[] delta, int answer) {
        return read(new DeltaFerry(), what, old, delta, answer);
    }

    private static DeltaFerry read(DeltaFerry x, String what, int[] old, int[] delta, int answer) {
        fill(x, 0, old);
        fill(x, 2, delta);
        due(what, x.decode(), answer);
        due(what + " leaves OLD", x.size(0), old.length);
        due(what + " leaves DELTA", x.size(2), delta.length);
        return x;
    }

    /** An object that has read a delta with a table of its own, in which codes 20 and 19 are exchanged. */
    private static DeltaFerry used() {
        DeltaFerry x = new DeltaFerry();
        fill(x, 0, "0123456789");
        fill(x, 2, withTable(8, 4, tableDelta(512 + 19, 4, 512 + 20, 0),
            window(row(1, 10, 0), 9, EMPTY, row(20, 5, 19), row(5, 3))));
        due("decode with another table", x.decode(), 9);
        return x;
    }

    static DeltaFerry read(String what, String old, int[] delta, int answer) {
        return read(what, bytesOf(old), delta, answer);
    }

    /** What is read makes these bytes, whatever was read before. */
    static void made(String what, int[] old, int[] delta, int[] result) {
        dueFile(what, read(what, old, delta, result.length), 3, result);
        dueFile(what, read(used(), what + ", behind another", old, delta, result.length), 3, result);
    }

    static void made(String what, String old, int[] delta, String result) {
        made(what, bytesOf(old), delta, bytesOf(result));
    }

    /** What is read is refused, whatever was read before; the RESULT stays. */
    static void refused(String what, int[] old, int[] delta, int answer) {
        dueFile(what, read(what, old, delta, answer), 3);
        dueFile(what, read(used(), what + ", behind another", old, delta, answer), 3, bytesOf("567893456"));
    }

    static void refused(String what, String old, int[] delta, int answer) {
        refused(what, bytesOf(old), delta, answer);
    }

    /** Makes the RESULT some bytes, and leaves DELTA empty. */
    static void giveResult(DeltaFerry ferry, int... bytes) {
        fill(ferry, 2, delta(addition(bytes)));
        due("decode", ferry.decode(), bytes.length);
        ferry.clear(2);
    }
}
