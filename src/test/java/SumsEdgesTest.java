/** Promises 8 and 9 at their edges: each sentence of the document that names one. */
public final class SumsEdgesTest extends Deltas {
    private static final int[] NO_FILES = {-1, 4, -4, 7, MIN, MAX};

    public static void main(String[] args) {
        digestIsFilledUp();
        digestOfTheMostBytes();
        digestOfEachFile();
        digestHalves();
        digestOfNoFile();
        checkOfNothing();
        checkComesRound();
        checkOfTheMostBytes();
        weakSumComesRound();
        weakSumOfTheMostBytes();
        weakSumOfOneByte();
        sumOfBytesThatThereAreNot();
        sumOfOtherNumbers();
        sumOfNoFile();
        sumsChangeNothing();
        finish("SumsEdgesTest");
    }

    private static DeltaFerry withDelta(int... bytes) {
        DeltaFerry x = new DeltaFerry();
        fill(x, 2, bytes);
        return x;
    }

    private static void dueDigest(DeltaFerry x, int file, int... bytes) {
        due("first half of the digest of " + bytes.length, x.digest(file, 0), digest(0, bytes));
        due("last half of the digest of " + bytes.length, x.digest(file, 1), digest(1, bytes));
    }

    // Terms: "as many bytes 0 as make their number 56 more than a multiple of 64": none at 55, 63 more at 56.
    private static void digestIsFilledUp() {
        for (int multiple = 0; multiple < 4; multiple++) {
            for (int n : row(0, 1, 2, 3, 4, 54, 55, 56, 57, 59, 60, 61, 62, 63)) {
                for (int b : row(0, 128, 255)) {
                    int[] bytes = times(64 * multiple + n, b);
                    dueDigest(with(bytes, EMPTY), 0, bytes);
                }
            }
        }
        // RFC 1321 has the same digest, and tells these.
        due("digest of nothing", new DeltaFerry().digest(0, 0), 0xd41d8cd98f00b204L);
        due("digest of nothing", new DeltaFerry().digest(0, 1), 0xe9800998ecf8427eL);
        due("digest of a", with("a", "").digest(0, 0), 0x0cc175b9c0f1b6a8L);
        due("digest of a", with("a", "").digest(0, 1), 0x31c399e269772661L);
    }

    // Terms: "then 8 n as eight bytes, the lowest first": 8 n is above 255 from 32 bytes on.
    private static void digestOfTheMostBytes() {
        for (int n : row(31, 32, 33, 298, 299, 300)) {
            dueDigest(with(mixed(n, 1), EMPTY), 0, mixed(n, 1));
        }
        for (int n : row(31, 32, 33, 511, 512, 631, 632, 639, 640, 699, 700)) {
            dueDigest(withDelta(mixed(n, 2)), 2, mixed(n, 2));
        }
        // What stood behind the end before is not summed.
        DeltaFerry x = withDelta(mixed(700, 3));
        fill(x, 2, "abc");
        dueDigest(x, 2, bytesOf("abc"));
    }

    private static void digestOfEachFile() {
        DeltaFerry x = new DeltaFerry();
        giveResult(x, bytesOf("result"));
        fill(x, 0, "old");
        fill(x, 1, "new");
        fill(x, 2, "delta");
        dueDigest(x, 0, bytesOf("old"));
        dueDigest(x, 1, bytesOf("new"));
        dueDigest(x, 2, bytesOf("delta"));
        dueDigest(x, 3, bytesOf("result"));
    }

    // Promise 8: "The first (half = 0) or last (any other half) eight bytes".
    private static void digestHalves() {
        DeltaFerry x = with("message digest", "");
        due("half 0", x.digest(0, 0), 0xf96b697d7cb7938dL);
        for (int half : row(1, 2, 3, -1, -2, 256, MIN, MAX)) {
            due("half " + half, x.digest(0, half), 0x525a2f31aaf161d0L);
        }
    }

    // Promise 8: "0 when file is not 0 .. 3".
    private static void digestOfNoFile() {
        DeltaFerry x = with("abc", "abc");
        for (int file : NO_FILES) {
            due("digest of file " + file, x.digest(file, 0), 0);
            due("digest of file " + file, x.digest(file, 1), 0);
        }
    }

    // Promise 9: "The check of a file (from = 0, n = 0)" - an empty one has a check, too.
    private static void checkOfNothing() {
        DeltaFerry x = new DeltaFerry();
        for (int file = 0; file < 4; file++) {
            due("check of nothing", x.sum(file, 0, 0), 1);
        }
        x.put(0, 0, 1);
        due("check of a byte 0", x.sum(0, 0, 0), 65536 + 1);
    }

    // Terms: "both modulo 65521".
    private static void checkComesRound() {
        int[][] lasts = {{238, 65519}, {239, 65520}, {240, 0}, {241, 1}, {255, 15}};
        for (int[] pair : lasts) {
            int[] bytes = joined(times(256, 255), row(pair[0]));
            DeltaFerry x = with(bytes, EMPTY);
            due("a with " + pair[0], x.sum(0, 0, 0) % 65536, pair[1]);
            due("check with " + pair[0], x.sum(0, 0, 0), check(bytes));
        }
        // b is 300, 300 times the first byte, and the weight of the byte 1.
        int[][] weights = {{119, 65519}, {120, 65520}, {121, 0}, {122, 1}};
        for (int[] pair : weights) {
            int[] bytes = joined(row(217), times(299 - pair[0], 0), row(1), times(pair[0] - 1, 0));
            DeltaFerry x = with(bytes, EMPTY);
            due("b with weight " + pair[0], x.sum(0, 0, 0), 65536L * pair[1] + 219);
        }
    }

    private static void checkOfTheMostBytes() {
        for (int n : row(299, 300, 301, 513, 514, 699, 700)) {
            for (int b : row(0, 1, 254, 255)) {
                int[] bytes = times(n, b);
                due("check of " + n + " bytes " + b, withDelta(bytes).sum(2, 0, 0), check(bytes));
            }
        }
        DeltaFerry x = withDelta(times(700, 255));
        fill(x, 2, "abc");
        due("what stood behind is not summed", x.sum(2, 0, 0), 65536L * 589 + 295);
    }

    // Terms: "the sum of (n - i) x(i), modulo 65536" and "their sum modulo 65536".
    private static void weakSumComesRound() {
        due("the sum is 65535", with(times(257, 255), EMPTY).sum(0, 0, 257) % 65536, 65535);
        DeltaFerry x = with(joined(times(257, 255), row(1, 0)), EMPTY);
        due("the sum is 65536", x.sum(0, 0, 258) % 65536, 0);
        due("the sum is 65536", x.sum(0, 0, 259) % 65536, 0);
        x = with(joined(times(257, 255), row(2)), EMPTY);
        due("the sum is 65537", x.sum(0, 0, 258) % 65536, 1);
        int[][] lasts = {{0, 65535}, {1, 0}, {2, 1}, {255, 254}};
        for (int[] pair : lasts) {
            x = with(joined(row(255), times(255, 0), row(pair[0])), EMPTY);
            due("with weights it is " + (65535 + pair[0]), x.sum(0, 0, 257), 65536L * pair[1] + 255 + pair[0]);
        }
        due("the most in both is no negative number",
            with(joined(row(255), times(256, 0)), EMPTY).sum(0, 0, 257), 65536L * 65535 + 255);
    }

    private static void weakSumOfTheMostBytes() {
        for (int n : row(1, 2, 256, 257, 258, 300, 512, 699, 700)) {
            for (int b : row(0, 1, 255)) {
                DeltaFerry x = withDelta(times(700, b));
                long weighted = (long) n * (n + 1) / 2 * b;
                long want = 65536L * (weighted % 65536) + (long) n * b % 65536;
                due("weak sum of " + n + " bytes " + b, x.sum(2, 0, n), want);
                due("weak sum of the last " + n + " bytes " + b, x.sum(2, 700 - n, n), want);
            }
        }
    }

    private static void weakSumOfOneByte() {
        DeltaFerry x = with(row(0, 1, 255), EMPTY);
        due("weak sum of 0", x.sum(0, 0, 1), 0);
        due("weak sum of 1", x.sum(0, 1, 1), 65537);
        due("weak sum of 255", x.sum(0, 2, 1), 65536L * 255 + 255);
    }

    // Promise 9: "NONE ... when there are no such bytes".
    private static void sumOfBytesThatThereAreNot() {
        for (int n : row(1, 2, 8, 300)) {
            DeltaFerry x = with(times(n, 1), EMPTY);
            due("all of " + n, x.sum(0, 0, n) != NONE, true);
            due("one more than all of " + n, x.sum(0, 0, n + 1), NONE);
            due("the last of " + n, x.sum(0, n - 1, 1), 65537);
            due("the last of " + n + " and one more", x.sum(0, n - 1, 2), NONE);
            due("the one behind the last of " + n, x.sum(0, n, 1), NONE);
            due("the one before the first of " + n, x.sum(0, -1, 1), NONE);
            due("the first of " + n + " and one before", x.sum(0, -1, 2), NONE);
            due("all but the first of " + n + ", and one more", x.sum(0, 1, n), NONE);
            for (int far : row(701, 1 << 16, MAX - 1, MAX)) {
                due("from " + far, x.sum(0, far, 1), NONE);
                due(far + " bytes", x.sum(0, 0, far), NONE);
                due(far + " bytes from 1 on", x.sum(0, 1, far), NONE);
                due(far + " bytes from " + far, x.sum(0, far, far), NONE);
            }
            due("from the least place", x.sum(0, MIN, MAX), NONE);
            due("from the least place", x.sum(0, MIN, 1), NONE);
        }
        DeltaFerry x = with(times(300, 1), EMPTY);
        fill(x, 0, "abc");
        due("bytes that there were", x.sum(0, 0, 4), NONE);
        due("bytes that there were", x.sum(0, 3, 1), NONE);
        due("bytes of an empty file", x.sum(1, 0, 1), NONE);
    }

    // Promise 9: "NONE for all other numbers" - than from = 0 with n = 0, or n above 0.
    private static void sumOfOtherNumbers() {
        DeltaFerry x = with("abc", "");
        for (int from : row(1, 2, 3, 4, -1, MIN, MAX)) {
            due("no bytes from " + from, x.sum(0, from, 0), NONE);
        }
        for (int n : row(-1, -2, -3, MIN, MIN + 1)) {
            for (int from : row(0, 1, 3, -1, MIN, MAX)) {
                due(n + " bytes from " + from, x.sum(0, from, n), NONE);
            }
        }
        due("no bytes from 1, of an empty file", x.sum(1, 1, 0), NONE);
    }

    // Promise 9: "NONE ... or file is not 0 .. 3".
    private static void sumOfNoFile() {
        DeltaFerry x = with("abc", "abc");
        for (int file : NO_FILES) {
            due("check of file " + file, x.sum(file, 0, 0), NONE);
            due("weak sum of file " + file, x.sum(file, 0, 1), NONE);
        }
        giveResult(x, bytesOf("abc"));
        due("check of the last file", x.sum(3, 0, 0), 65536L * 589 + 295);
        due("weak sum of the last file", x.sum(3, 2, 1), 65536L * 99 + 99);
    }

    private static void sumsChangeNothing() {
        DeltaFerry x = with("abcdefgh", "abcdefgh");
        x.sign(4);
        x.scan(16);
        x.digest(1, 0);
        x.sum(1, 0, 0);
        x.sum(1, 1, 4);
        duePlan("sums leave the plan", x, copy(8, 0, 0));
        due("and the signature", x.scan(16), 1);
        duePlan("and the signature", x, copy(8, 0, 0));
        dueFile("and the files", x, 1, bytesOf("abcdefgh"));
    }
}
