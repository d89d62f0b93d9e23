import java.util.Arrays;

/**
 * Deltas that were not put together by this project: xdelta3 3.0.11 wrote them (-e -9 -S none -A, those without a
 * check with -n), whose form is that of the document.
 */
public final class OtherWriterTest extends Checks {
    private static final String OLD = "the quick brown fox jumps over the lazy dog; the quick brown cat sleeps under the"
        + " lazy tree. 0123456789 abcdefghijklmnop";
    private static final String NEW = "abcdefghijklmnop the quick brown cat jumps over the lazy tree;"
        + " ==================== 0123456789 the quick brown fox sleeps, 0123456789!";
    private static final String ALONE = "one two three four one two three four one two three four ----------------"
        + " one two three four";

    public static void main(String[] args) {
        withSource();
        withoutSource();
        finish("OtherWriterTest");
    }

    private static void withSource() {
        made(OLD, NEW, "d6c3c400000578002a8106000b0e071e0f2ac83b203d736c656570732c2120"
            + "13141d1c0300141c1314082b02682c134f5c0027");
        made(OLD, NEW, "d6c3c40000017800268106000b0e073b203d736c656570732c2120"
            + "13141d1c0300141c1314082b02682c134f5c0027");
    }

    private static void withoutSource() {
        made("", ALONE, "d6c3c4000004275c00140802c9231e916f6e652074776f20746872656520666f7572202d"
            + "01131326001013130025");
        made("", ALONE, "d6c3c4000000235c001408026f6e652074776f20746872656520666f7572202d01131326001013130025");
    }

    private static void made(String old, String fresh, String hex) {
        int[] delta = bytesOfHex(hex);
        DeltaFerry x = new DeltaFerry();
        fill(x, 0, old);
        fill(x, 2, delta);
        due(hex, x.decode(), fresh.length());
        dueFile(hex, x, 3, bytesOf(fresh));
        for (int n = 5 + 1; n < delta.length; n++) {
            cut(old, Arrays.copyOf(delta, n));
        }
    }

    /** Each has one window: where bytes of it are missing, it is refused. */
    private static void cut(String old, int[] delta) {
        DeltaFerry x = new DeltaFerry();
        fill(x, 0, old);
        fill(x, 2, delta);
        due("cut to " + delta.length, x.decode(), BROKEN);
        due("cut to " + delta.length + ": the RESULT", x.size(3), 0);
    }

    private static int[] bytesOfHex(String hex) {
        int[] bytes = new int[hex.length() / 2];
        for (int i = 0; i < bytes.length; i++) {
            bytes[i] = Integer.parseInt(hex.substring(2 * i, 2 * i + 2), 16);
        }
        return bytes;
    }
}
