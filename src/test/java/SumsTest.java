import java.util.ArrayList;
import java.util.List;

/** Promises 8 and 9: digest and sum. */
public final class SumsTest {
    public static void main(String[] args) {
        knownDigests();
        allSizes();
        refused();
        weakSums();
        Checks.finish("SumsTest");
    }

    private static void knownDigests() {
        DeltaFerry x = new DeltaFerry();
        Checks.due("digest of nothing", x.digest(3, 0), 0xd41d8cd98f00b204L);
        Checks.due("digest of nothing", x.digest(3, 1), 0xe9800998ecf8427eL);
        Checks.fill(x, 0, "message digest");
        Checks.due("digest", x.digest(0, 0), 0xf96b697d7cb7938dL);
        for (int half : Checks.row(1, 2, -1, Integer.MIN_VALUE)) {
            Checks.due("digest, half " + half, x.digest(0, half), 0x525a2f31aaf161d0L);
        }
        Checks.fill(x, 2, "12345678901234567890123456789012345678901234567890123456789012345678901234567890");
        Checks.due("digest", x.digest(2, 0), 0x57edf4a22be3c955L);
        Checks.due("digest", x.digest(2, 1), 0xac49da2e2107b67aL);
    }

    private static void allSizes() {
        DeltaFerry x = new DeltaFerry();
        Model model = new Model();
        for (int n = 0; n <= 700; n++) {
            Checks.due("digest of " + n, x.digest(2, 0), model.digest(2, 0));
            Checks.due("digest of " + n, x.digest(2, 1), model.digest(2, 1));
            Checks.due("check of " + n, x.sum(2, 0, 0), model.sum(2, 0, 0));
            Checks.due("weak sum of " + n, x.sum(2, 0, n), model.sum(2, 0, n));
            x.put(2, n % 3 == 0 ? 255 : n * 37, 1);
            model.put(2, n % 3 == 0 ? 255 : n * 37, 1);
        }
        Checks.fill(x, 2, Checks.times(700, 255));
        List<Integer> all = new ArrayList<>();
        for (int i = 0; i < 700; i++) {
            all.add(255);
        }
        Checks.due("check of many 255", x.sum(2, 0, 0), Model.check(all));
        Checks.due("weak sum of many 255", x.sum(2, 0, 700), Model.weak(all));
    }

    private static void refused() {
        DeltaFerry x = new DeltaFerry();
        Checks.fill(x, 0, "abc");
        for (int file : Checks.row(-1, 4, Integer.MIN_VALUE, Integer.MAX_VALUE)) {
            Checks.due("digest of " + file, x.digest(file, 0), 0);
            Checks.due("check of " + file, x.sum(file, 0, 0), DeltaFerry.NONE);
            Checks.due("weak sum of " + file, x.sum(file, 0, 1), DeltaFerry.NONE);
        }
        int[][] wrong = {
            {0, -1}, {1, 0}, {-1, 0}, {-1, 1}, {-1, 2}, {0, 4}, {1, 3}, {3, 1}, {2, 2}, {4, 1}, {3, 0}, {1, -1},
            {Integer.MAX_VALUE, 1}, {1, Integer.MAX_VALUE}, {Integer.MAX_VALUE, Integer.MAX_VALUE},
            {Integer.MIN_VALUE, 1}, {0, Integer.MIN_VALUE}, {Integer.MIN_VALUE, Integer.MIN_VALUE}
        };
        for (int[] pair : wrong) {
            Checks.due("sum " + pair[0] + " " + pair[1], x.sum(0, pair[0], pair[1]), DeltaFerry.NONE);
        }
    }

    private static void weakSums() {
        DeltaFerry x = new DeltaFerry();
        Checks.due("check of nothing", x.sum(0, 0, 0), 1);
        Checks.fill(x, 0, "abc");
        Checks.due("check", x.sum(0, 0, 0), 65536L * 589 + 295);
        Checks.due("weak sum", x.sum(0, 0, 3), 65536L * (3 * 97 + 2 * 98 + 99) + 294);
        Checks.due("weak sum", x.sum(0, 1, 2), 65536L * (2 * 98 + 99) + 197);
        Checks.due("weak sum", x.sum(0, 2, 1), 65536L * 99 + 99);
    }
}
