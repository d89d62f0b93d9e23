import java.util.List;

/** Counts answers that are not as due, and helps to fill files. */
final class Checks {
    private static int wrong = 0;
    private static int made = 0;

    private Checks() {
    }

    static void due(String what, long got, long want) {
        made++;
        if (got != want) {
            wrong++;
            if (wrong <= 50) {
                System.out.println(what + " answered " + got + ", due is " + want);
            }
        }
    }

    static void due(String what, boolean got, boolean want) {
        due(what, got ? 1 : 0, want ? 1 : 0);
    }

    static int wrong() {
        return wrong;
    }

    static void finish(String name) {
        System.out.println(name + ": " + made + " answers, " + wrong + " not as due");
        if (wrong > 0) {
            System.exit(1);
        }
    }

    static void fill(DeltaFerry ferry, int file, int... bytes) {
        ferry.clear(file);
        for (int from = 0; from < bytes.length; from += 8) {
            int n = Math.min(8, bytes.length - from);
            long eight = 0;
            for (int i = n - 1; i >= 0; i--) {
                eight = eight << 8 | bytes[from + i] & 255;
            }
            due("put", ferry.put(file, eight, n), true);
        }
    }

    static void fill(DeltaFerry ferry, int file, String text) {
        fill(ferry, file, bytesOf(text));
    }

    static int[] bytesOf(String text) {
        int[] bytes = new int[text.length()];
        for (int i = 0; i < bytes.length; i++) {
            bytes[i] = text.charAt(i);
        }
        return bytes;
    }

    static int[] bytesOf(List<Integer> row) {
        int[] bytes = new int[row.size()];
        for (int i = 0; i < bytes.length; i++) {
            bytes[i] = row.get(i);
        }
        return bytes;
    }

    static int[] joined(int[]... parts) {
        int n = 0;
        for (int[] part : parts) {
            n += part.length;
        }
        int[] all = new int[n];
        int place = 0;
        for (int[] part : parts) {
            System.arraycopy(part, 0, all, place, part.length);
            place += part.length;
        }
        return all;
    }

    static int[] row(int... bytes) {
        return bytes;
    }

    static int[] times(int n, int b) {
        int[] bytes = new int[n];
        java.util.Arrays.fill(bytes, b);
        return bytes;
    }

    /** n bytes no four of which stand together twice. */
    static int[] mixed(int n, int seed) {
        int[] bytes = new int[n];
        int x = seed * 7919 + 17;
        for (int i = 0; i < n; i++) {
            x = x * 1103515245 + 12345;
            bytes[i] = x >>> 16 & 255;
        }
        return bytes;
    }

    static void dueFile(String what, DeltaFerry ferry, int file, int... want) {
        due(what + ": size", ferry.size(file), want.length);
        for (int i = 0; i < want.length; i++) {
            due(what + ": byte " + i, ferry.at(file, i), want[i]);
        }
        due(what + ": behind the last byte", ferry.at(file, want.length), DeltaFerry.NONE);
    }

    /** The plan, each row being type, size, address and window. */
    static void duePlan(String what, DeltaFerry ferry, int[]... want) {
        for (int i = 0; i < want.length; i++) {
            for (int k = 0; k < 4; k++) {
                due(what + ": instruction " + i + ", " + k, ferry.instruction(i, k), want[i][k]);
            }
        }
        due(what + ": behind the last instruction", ferry.instruction(want.length, 0), DeltaFerry.NONE);
    }
}
