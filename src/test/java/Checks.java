import java.util.ArrayList;
import java.util.List;

/**
 * Counts answers that are not as due, and helps to fill files. An object is used for at most 512 calls, in tests
 * too: what later calls answer is free.
 */
abstract class Checks {
    static final int NONE = -1, BROKEN = -2, SECOND = -3, LARGE = -4, TABLE = -5, CHECK = -6, OTHER = -7;
    static final int ADD = 1, RUN = 2, COPY = 3;
    static final int MIN = Integer.MIN_VALUE, MAX = Integer.MAX_VALUE;
    private static final int FEW = 60;
    private static int wrong = 0;
    private static int made = 0;

    static void due(String what, long got, long want) {
        made++;
        if (got != want) {
            wrong++;
            if (wrong <= 50) {
                System.out.println(what + " answered " + got + ", due is " + want);
            }
        }
    }

    static void due(String what, boolean got, boolean want) {
        due(what, got ? 1 : 0, want ? 1 : 0);
    }

    static int wrong() {
        return wrong;
    }

    static void finish(String name) {
        System.out.println(name + ": " + made + " answers, " + wrong + " not as due");
        if (wrong > 0) {
            System.exit(1);
        }
    }

    static void fill(DeltaFerry ferry, int file, int... bytes) {
        ferry.clear(file);
        for (int from = 0; from < bytes.length; from += 8) {
            int n = Math.min(8, bytes.length - from);
            long eight = 0;
            for (int i = n - 1; i >= 0; i--) {
                eight = eight << 8 | bytes[from + i] & 255;
            }
            due("put", ferry.put(file, eight, n), true);
        }
    }

    static void fill(DeltaFerry ferry, int file, String text) {
        fill(ferry, file, bytesOf(text));
    }

    static int[] bytesOf(String text) {
        int[] bytes = new int[text.length()];
        for (int i = 0; i < bytes.length; i++) {
            bytes[i] = text.charAt(i);
        }
        return bytes;
    }

    static int[] bytesOf(List<Integer> row) {
        int[] bytes = new int[row.size()];
        for (int i = 0; i < bytes.length; i++) {
            bytes[i] = row.get(i);
        }
        return bytes;
    }

    static int[] joined(int[]... parts) {
        int n = 0;
        for (int[] part : parts) {
            n += part.length;
        }
        int[] all = new int[n];
        int place = 0;
        for (int[] part : parts) {
            System.arraycopy(part, 0, all, place, part.length);
            place += part.length;
        }
        return all;
    }

    static int[] row(int... bytes) {
        return bytes;
    }

    static int[] times(int n, int b) {
        int[] bytes = new int[n];
        java.util.Arrays.fill(bytes, b);
        return bytes;
    }

    /** n bytes no four of which stand together twice. */
    static int[] mixed(int n, int seed) {
        int[] bytes = new int[n];
        int x = seed * 7919 + 17;
        for (int i = 0; i < n; i++) {
            x = x * 1103515245 + 12345;
            bytes[i] = x >>> 16 & 255;
        }
        return bytes;
    }

    static int[] part(int[] bytes, int from, int n) {
        return java.util.Arrays.copyOfRange(bytes, from, from + n);
    }

    static List<Integer> listOf(int... bytes) {
        List<Integer> row = new ArrayList<>();
        for (int b : bytes) {
            row.add(b);
        }
        return row;
    }

    static long check(int... bytes) {
        return Model.check(listOf(bytes));
    }

    static long digest(int half, int... bytes) {
        return Model.half(listOf(bytes), half);
    }

    /** Looks at each byte of a short file; of a long one at its ends and its digest, for calls are counted. */
    static void dueFile(String what, DeltaFerry ferry, int file, int... want) {
        int n = want.length;
        due(what + ": size", ferry.size(file), n);
        for (int i = 0; i < n; i++) {
            if (n <= FEW || i == 0 || i == n - 1) {
                due(what + ": byte " + i, ferry.at(file, i), want[i]);
            }
        }
        if (n > FEW) {
            due(what + ": first half of the digest", ferry.digest(file, 0), digest(0, want));
            due(what + ": last half of the digest", ferry.digest(file, 1), digest(1, want));
        }
        due(what + ": behind the last byte", ferry.at(file, n), NONE);
    }

    static int[] add(int n, int window) {
        return row(ADD, n, NONE, window);
    }

    static int[] run(int n, int window) {
        return row(RUN, n, NONE, window);
    }

    static int[] copy(int n, int address, int window) {
        return row(COPY, n, address, window);
    }

    static DeltaFerry with(int[] old, int[] fresh) {
        DeltaFerry x = new DeltaFerry();
        fill(x, 0, old);
        fill(x, 1, fresh);
        return x;
    }

    static DeltaFerry with(String old, String fresh) {
        return with(bytesOf(old), bytesOf(fresh));
    }

    /** The plan, each row being type, size, address and window. */
    static void duePlan(String what, DeltaFerry ferry, int[]... want) {
        for (int i = 0; i < want.length; i++) {
            for (int k = 0; k < 4; k++) {
                due(what + ": instruction " + i + ", " + k, ferry.instruction(i, k), want[i][k]);
            }
        }
        due(what + ": behind the last instruction", ferry.instruction(want.length, 0), NONE);
    }
}
