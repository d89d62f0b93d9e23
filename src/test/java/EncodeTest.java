/** Promise 14: encode. */
public final class EncodeTest extends Deltas {
    public static void main(String[] args) {
        nothing();
        additions();
        runs();
        modes();
        pairs();
        sizes();
        windows();
        allThatIsWrittenIsRead();
        finish("EncodeTest");
    }

    private static void dueDelta(String what, DeltaFerry x, boolean checked, int... behind) {
        int[] all = joined(row(214, 195, 196, 0, 0), behind);
        due(what, x.encode(checked), all.length);
        dueFile(what, x, 2, all);
    }

    private static DeltaFerry differed(String old, String fresh) {
        DeltaFerry x = new DeltaFerry();
        fill(x, 0, old);
        fill(x, 1, fresh);
        x.differ(16, 256);
        return x;
    }

    private static void nothing() {
        DeltaFerry x = new DeltaFerry();
        fill(x, 2, 1, 2, 3);
        due("no plan", x.encode(true), NONE);
        dueFile("no plan leaves DELTA", x, 2, 1, 2, 3);
        fill(x, 0, "abcd");
        x.differ(1, 16);
        dueDelta("no window", x, true);
    }

    private static void additions() {
        DeltaFerry x = differed("", "abc");
        dueDelta("an addition", x, false, 0, 9, 3, 0, 3, 1, 0, 97, 98, 99, 4);
        dueDelta("a checked one", x, true, 4, 13, 3, 0, 3, 1, 0, 2, 77, 1, 39, 97, 98, 99, 4);
        x = differed("xy", "abc");
        dueDelta("with a source", x, false, 1, 2, 0, 9, 3, 0, 3, 1, 0, 97, 98, 99, 4);
        dueDelta("with a source, checked", x, true, 5, 2, 0, 13, 3, 0, 3, 1, 0, 2, 77, 1, 39, 97, 98, 99, 4);
        dueDelta("a source of one byte", differed("x", "abc"), false, 1, 1, 0, 9, 3, 0, 3, 1, 0, 97, 98, 99, 4);
        x.sign(4);
        x.scan(16);
        dueDelta("OLD of less than a block is no source", x, false, 0, 9, 3, 0, 3, 1, 0, 97, 98, 99, 4);
    }

    private static void runs() {
        DeltaFerry x = differed("", "zzzzz");
        dueDelta("a run", x, false, 0, 8, 5, 0, 1, 2, 0, 122, 0, 5);
        fill(x, 1, joined(row(9), times(200, 8)));
        x.differ(1, 256);
        dueDelta("a long run", x, false, 0, 12, 129, 73, 0, 2, 4, 0, 9, 8, 2, 0, 129, 72);
    }

    private static int[] block(int[] old, int from) {
        return java.util.Arrays.copyOfRange(old, from, from + 4);
    }

    private static void modes() {
        DeltaFerry x = new DeltaFerry();
        int[] old = mixed(300, 9);
        fill(x, 0, old);
        fill(x, 1, joined(
            block(old, 12), block(old, 20), block(old, 12), block(old, 260), block(old, 260), block(old, 0)));
        x.sign(4);
        due("scan", x.scan(64), 6);
        dueDelta("modes 0, 2, 6, 1, 7, 6", x, false, 1, 130, 44, 0, 17, 24, 0, 0, 6, 6,
            20, 52, 116, 36, 132, 116, 12, 8, 12, 52, 4, 0);
        // The first row's turn comes round: its first address is the fifth one then, which is nearest.
        fill(x, 1, joined(
            block(old, 100), block(old, 60), block(old, 40), block(old, 20), block(old, 104), block(old, 128)));
        due("scan", x.scan(64), 6);
        dueDelta("turns", x, false, 1, 130, 44, 0, 17, 24, 0, 0, 6, 6, 20, 20, 20, 20, 52, 52, 100, 60, 40, 20, 4, 24);
        // In the second row, a byte of 128 or more is one byte.
        fill(x, 1, joined(block(old, 152), block(old, 152)));
        due("scan", x.scan(64), 2);
        dueDelta("a byte", x, false, 1, 130, 44, 0, 10, 8, 0, 0, 2, 3, 36, 116, 129, 20, 152);
        // The last of the first row is nearest; behind bytes there is a code for both.
        fill(x, 1, joined(block(old, 12), block(old, 40), block(old, 60), block(old, 80),
            row(1, 2, 3, 4), block(old, 84), row(5, 6, 7, 8), block(old, 260), row(9, 9),
            block(old, 260), row(1, 2, 3, 4), block(old, 260)));
        due("scan", x.scan(64), 12);
        dueDelta("modes 5 and 7", x, false, 1, 130, 44, 0, 35, 46, 0, 14, 8, 8, 1, 2, 3, 4, 5, 6, 7, 8, 9, 9, 1, 2, 3, 4,
            20, 52, 68, 84, 232, 184, 240, 242, 12, 28, 20, 20, 4, 68, 4, 4);
        // Modes with the same number: the least one.
        fill(x, 0, mixed(8, 9));
        fill(x, 1, java.util.Arrays.copyOfRange(mixed(8, 9), 4, 8));
        x.sign(4);
        x.scan(64);
        dueDelta("4 is told by mode 0", x, false, 1, 8, 0, 7, 4, 0, 0, 1, 1, 20, 4);
    }

    private static void pairs() {
        dueDelta("ADD 2, COPY 4 with mode 6; ADD 1", differed("abcdefgh", "xyabcd!"), false,
            1, 8, 0, 11, 7, 0, 3, 2, 1, 120, 121, 33, 236, 2, 0);
        dueDelta("ADD 2, COPY 5 with mode 6 have no code", differed("abcdefgh", "xyabcde!"), false,
            1, 8, 0, 12, 8, 0, 3, 3, 1, 120, 121, 33, 3, 117, 2, 0);
        dueDelta("COPY 4 with mode 6, ADD 1", differed("abcdefgh", "abcd!"), false,
            1, 8, 0, 8, 5, 0, 1, 1, 1, 33, 253, 0);
        dueDelta("COPY 4, ADD 2 have no code", differed("abcdefgh", "abcd!?"), false,
            1, 8, 0, 10, 6, 0, 2, 2, 1, 33, 63, 116, 3, 0);
        dueDelta("RUN 4, COPY 6 with mode 0", differed("-abcdefgh", "....abcdef"), false,
            1, 9, 0, 10, 10, 0, 1, 3, 1, 46, 0, 4, 22, 1);
        dueDelta("ADD 3, COPY 6 with mode 0", differed("-abcdefgh", ".,;abcdef"), false,
            1, 9, 0, 10, 9, 0, 3, 1, 1, 46, 44, 59, 171, 1);
        dueDelta("ADD 3, COPY 7 have no code", differed("-abcdefgh", ".,;abcdefg"), false,
            1, 9, 0, 11, 10, 0, 3, 2, 1, 46, 44, 59, 4, 23, 1);
        dueDelta("ADD 5, COPY 4 have no code", differed("-abcdefgh", ".,;:!abcd"), false,
            1, 9, 0, 13, 9, 0, 5, 2, 1, 46, 44, 59, 58, 33, 6, 20, 1);
        dueDelta("ADD 1, COPY 4 with mode 1", differed("-----------------abcd", "!abcd"), false,
            1, 21, 0, 8, 5, 0, 1, 1, 1, 33, 175, 5);
    }

    private static void sizes() {
        int[] old = mixed(60, 5);
        DeltaFerry x = new DeltaFerry();
        fill(x, 0, old);
        int[][] copies = {{18, 34}, {19, 19}, {20, 19}};
        for (int[] pair : copies) {
            int n = pair[0];
            fill(x, 1, java.util.Arrays.copyOfRange(old, 3, 3 + n));
            x.differ(1, 64);
            int[] code = n <= 18 ? row(pair[1]) : row(pair[1], n);
            dueDelta("COPY " + n, x, false, joined(
                row(1, 60, 0, 6 + code.length, n, 0, 0, code.length, 1), code, row(3)));
        }
        for (int n = 17; n <= 18; n++) {
            int[] bytes = mixed(n, 6);
            fill(x, 1, bytes);
            x.differ(1, 64);
            int[] code = n <= 17 ? row(18) : row(1, n);
            dueDelta("ADD " + n, x, false, joined(
                row(1, 60, 0, 5 + n + code.length, n, 0, n, code.length, 0), bytes, code));
        }
        int[] many = mixed(130, 7);
        fill(x, 1, many);
        x.differ(1, 256);
        dueDelta("numbers of two bytes", x, false, joined(
            row(1, 60, 0, 129, 12, 129, 2, 0, 129, 2, 3, 0), many, row(1, 129, 2)));
    }

    private static void windows() {
        DeltaFerry x = new DeltaFerry();
        int[] old = mixed(20, 8);
        fill(x, 0, old);
        fill(x, 1, old);
        x.sign(10);
        due("scan", x.scan(17), 2);
        dueDelta("a copy of 3 in a window of its own", x, false,
            1, 20, 0, 7, 17, 0, 0, 1, 1, 129, 0, 1, 20, 0, 8, 3, 0, 0, 2, 1, 35, 3, 3);
        fill(x, 0, "abcd");
        fill(x, 1, "efghijklmnopqrs!abcd?");
        due("differ", x.differ(1, 16), 3);
        dueDelta("no code for two windows", x, false, joined(
            row(1, 4, 0, 22, 16, 0, 16, 1, 0), bytesOf("efghijklmnopqrs!"), row(17),
            row(1, 4, 0, 8, 5, 0, 1, 1, 1, '?', 253, 0)));
        fill(x, 1, "aaaabbbbccccdd!!abcd?");
        due("differ", x.differ(1, 16), 6);
        dueDelta("no code for two windows", x, false, 1, 4, 0, 19, 16, 0, 7, 7, 0, 'a', 'b', 'c', 'd', 'd', '!', '!',
            0, 4, 0, 4, 0, 4, 5, 1, 4, 0, 8, 5, 0, 1, 1, 1, '?', 253, 0);
    }

    private static void allThatIsWrittenIsRead() {
        for (int seed = 0; seed < 40; seed++) {
            DeltaFerry x = new DeltaFerry();
            int[] old = mixed(100 + 5 * seed, seed);
            int[] fresh = joined(java.util.Arrays.copyOfRange(old, seed, 90), times(seed, 3),
                mixed(20, seed + 50), java.util.Arrays.copyOfRange(old, 10, 60));
            fill(x, 0, old);
            fill(x, 1, fresh);
            x.differ(1 + seed % 16, 16 + 6 * seed);
            x.encode(seed % 2 == 0);
            due("decode", x.decode(), fresh.length);
            dueFile("decode", x, 3, fresh);
        }
    }
}
