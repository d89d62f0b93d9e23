/** Promises 8 and 9: digest and sum. */
public final class SumsTest extends Checks {
    public static void main(String[] args) {
        knownDigests();
        allSizes();
        refused();
        weakSums();
        finish("SumsTest");
    }

    private static void knownDigests() {
        DeltaFerry x = new DeltaFerry();
        due("digest of nothing", x.digest(3, 0), 0xd41d8cd98f00b204L);
        due("digest of nothing", x.digest(3, 1), 0xe9800998ecf8427eL);
        fill(x, 0, "message digest");
        due("digest", x.digest(0, 0), 0xf96b697d7cb7938dL);
        for (int half : row(1, 2, -1, Integer.MIN_VALUE)) {
            due("digest, half " + half, x.digest(0, half), 0x525a2f31aaf161d0L);
        }
        fill(x, 2, "12345678901234567890123456789012345678901234567890123456789012345678901234567890");
        due("digest", x.digest(2, 0), 0x57edf4a22be3c955L);
        due("digest", x.digest(2, 1), 0xac49da2e2107b67aL);
    }

    private static void allSizes() {
        for (int n = 0; n <= 700; n++) {
            int[] bytes = n % 3 == 0 ? times(n, 255) : mixed(n, n);
            DeltaFerry x = new DeltaFerry();
            fill(x, 2, bytes);
            due("digest of " + n, x.digest(2, 0), digest(0, bytes));
            due("digest of " + n, x.digest(2, 1), digest(1, bytes));
            due("check of " + n, x.sum(2, 0, 0), check(bytes));
            due("weak sum of " + n, x.sum(2, 0, n), n == 0 ? 1 : Model.weak(listOf(bytes)));
        }
    }

    private static void refused() {
        DeltaFerry x = new DeltaFerry();
        fill(x, 0, "abc");
        for (int file : row(-1, 4, Integer.MIN_VALUE, Integer.MAX_VALUE)) {
            due("digest of " + file, x.digest(file, 0), 0);
            due("check of " + file, x.sum(file, 0, 0), NONE);
            due("weak sum of " + file, x.sum(file, 0, 1), NONE);
        }
        int[][] wrong = {
            {0, -1}, {1, 0}, {-1, 0}, {-1, 1}, {-1, 2}, {0, 4}, {1, 3}, {3, 1}, {2, 2}, {4, 1}, {3, 0}, {1, -1},
            {Integer.MAX_VALUE, 1}, {1, Integer.MAX_VALUE}, {Integer.MAX_VALUE, Integer.MAX_VALUE},
            {Integer.MIN_VALUE, 1}, {0, Integer.MIN_VALUE}, {Integer.MIN_VALUE, Integer.MIN_VALUE}
        };
        for (int[] pair : wrong) {
            due("sum " + pair[0] + " " + pair[1], x.sum(0, pair[0], pair[1]), NONE);
        }
    }

    private static void weakSums() {
        DeltaFerry x = new DeltaFerry();
        due("check of nothing", x.sum(0, 0, 0), 1);
        fill(x, 0, "abc");
        due("check", x.sum(0, 0, 0), 65536L * 589 + 295);
        due("weak sum", x.sum(0, 0, 3), 65536L * (3 * 97 + 2 * 98 + 99) + 294);
        due("weak sum", x.sum(0, 1, 2), 65536L * (2 * 98 + 99) + 197);
        due("weak sum", x.sum(0, 2, 1), 65536L * 99 + 99);
    }
}
