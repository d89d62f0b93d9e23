/** Promise 14 at its edges, with those of "DELTA AS WRITTEN": each sentence of the document that names one. */
public final class WriteEdgesTest extends Deltas {
    private static final int[] OLD = mixed(300, 9);

    public static void main(String[] args) {
        encodeWithoutAPlan();
        encodeOfNothing();
        encodeOfTheLongestPlan();
        encodeAgain();
        encodeChangesOnlyDelta();
        sourceMayBeEmpty();
        sourceSizes();
        windowChecks();
        addSizes();
        runSizes();
        copySizes();
        copySizesBelowFour();
        copySizesInTheLastMode();
        addAndCopy();
        copyAndAdd();
        codesFromTheFirstOn();
        noCodeForTwoWindows();
        addressNumbers();
        addressOfTheLeastNumber();
        addressOfTheLeastMode();
        addressInTheSecondRow();
        firstRowGoesRound();
        rowsAreEmptyInEachWindow();
        finish("WriteEdgesTest");
    }

    /** DELTA becomes these windows, and is read back as NEW. */
    private static void dueDelta(String what, DeltaFerry x, int[]... windows) {
        int[] all = delta(windows);
        due(what, x.encode(false), all.length);
        dueFile(what, x, 2, all);
        due(what + ", read", x.decode(), x.size(1));
        due(what + ", read", x.digest(3, 0), x.digest(1, 0));
        due(what + ", checked", x.encode(true), longerBy(4, windows));
        due(what + ", checked and read", x.decode(), x.size(1));
    }

    /** How many bytes there are when each window has some more, of which the number may take a byte more to tell. */
    private static int longerBy(int more, int[]... windows) {
        int n = HEAD.length;
        for (int[] window : windows) {
            int place = 1;
            for (int numbers = window[0] == 0 ? 0 : 2; numbers > 0; numbers--) {
                while (window[place] >= 128) {
                    place++;
                }
                place++;
            }
            int body = window[place] < 128 ? window[place] : 128 * (window[place] - 128) + window[place + 1];
            n += window.length + more + number(body + more).length - number(body).length;
        }
        return n;
    }

    private static int[] source(int size) {
        return joined(row(1), number(size), row(0));
    }

    private static int[] strange(int n) {
        return mixed(n, 77);
    }

    private static int[] block(int size, int index) {
        return part(OLD, size * index, size);
    }

    private static DeltaFerry scanned(int block, int window, int[]... parts) {
        DeltaFerry x = with(OLD, joined(parts));
        x.sign(block);
        x.scan(window);
        return x;
    }

    private static DeltaFerry differed(int[] old, int[]... parts) {
        DeltaFerry x = with(old, joined(parts));
        x.differ(16, 256);
        return x;
    }

    // Promise 14: "NONE, refused, when there is no plan".
    private static void encodeWithoutAPlan() {
        DeltaFerry x = with("abcd", "abcd");
        fill(x, 2, "delta");
        due("no plan", x.encode(false), NONE);
        due("no plan", x.encode(true), NONE);
        dueFile("DELTA stays", x, 2, bytesOf("delta"));
        x.sign(4);
        due("a signature is no plan", x.encode(false), NONE);
        x.scan(15);
        x.differ(0, 16);
        due("what is refused is no plan", x.encode(false), NONE);
        x.scan(16);
        x.set(1, 0, 'a');
        due("a plan that is given up", x.encode(true), NONE);
        dueFile("DELTA stays", x, 2, bytesOf("delta"));
    }

    // "for each window of the plan" - there may be none.
    private static void encodeOfNothing() {
        for (int[] old : new int[][] {EMPTY, OLD}) {
            DeltaFerry x = differed(old);
            dueDelta("a plan of nothing", x);
            x.sign(4);
            x.scan(16);
            dueDelta("a plan of nothing", x);
        }
    }

    // Promise 14: "LARGE, refused, when it would have more than 700." No plan that can be made has as many: the
    // longest one has a block cut in two at each window's end, with addresses of two bytes.
    private static void encodeOfTheLongestPlan() {
        int[] fresh = mixed(300, 4);
        for (int end = 16; end < 300; end += 16) {
            System.arraycopy(OLD, 160, fresh, end - 2, 4);
        }
        DeltaFerry x = scanned(4, 16, fresh);
        due("the longest plan", x.encode(true), 662);
        due("the longest plan, read", x.decode(), 300);
        dueFile("the longest plan, read", x, 3, fresh);
    }

    private static void encodeAgain() {
        DeltaFerry x = differed(EMPTY, bytesOf("abc"));
        fill(x, 2, times(700, 7));
        int[] plain = delta(window(row(0), 3, bytesOf("abc"), row(4), EMPTY));
        int[] checked = delta(window(row(4), 3, told(check(bytesOf("abc"))), bytesOf("abc"), row(4), EMPTY));
        for (int time = 0; time < 2; time++) {
            due("encode", x.encode(false), plain.length);
            dueFile("encode", x, 2, plain);
            due("encode, checked", x.encode(true), checked.length);
            dueFile("encode, checked", x, 2, checked);
        }
    }

    private static void encodeChangesOnlyDelta() {
        DeltaFerry x = with("abcdefgh", "!abcdefgh");
        giveResult(x, bytesOf("result"));
        x.sign(4);
        x.scan(16);
        x.encode(true);
        dueFile("OLD", x, 0, bytesOf("abcdefgh"));
        dueFile("NEW", x, 1, bytesOf("!abcdefgh"));
        dueFile("RESULT", x, 3, bytesOf("result"));
        duePlan("the plan", x, add(1, 0), copy(8, 0, 0));
        due("the signature", x.scan(16), 2);
    }

    // "a byte, 1 if the source is not empty, and 4 more when checked; (with 1: the source's size, 0, as numbers)".
    private static void sourceMayBeEmpty() {
        int[] abc = bytesOf("abc");
        for (int n : row(0, 1, 2)) {
            DeltaFerry x = differed(part(OLD, 0, n), abc);
            int[] kind = n == 0 ? row(0) : row(1, n, 0);
            dueDelta("a source of " + n, x, window(kind, 3, abc, row(4), EMPTY));
            kind[0] += 4;
            due("checked", x.encode(true), delta(window(kind, 3, times(4, 0), abc, row(4), EMPTY)).length);
            dueFile("checked", x, 2, delta(window(kind, 3, told(check(abc)), abc, row(4), EMPTY)));
        }
        for (int n : row(0, 3, 4, 5)) {
            DeltaFerry x = with(part(OLD, 0, n), abc);
            x.sign(4);
            x.scan(16);
            dueDelta("blocks of " + n, x, window(n < 4 ? row(0) : row(1, 4, 0), 3, abc, row(4), EMPTY));
            x.encode(true);
            due("checked", x.at(2, 5), n < 4 ? 4 : 5);
        }
    }

    // "the source's size, 0, as numbers": of one byte up to 127, of two from 128 on.
    private static void sourceSizes() {
        for (int n : row(126, 127, 128, 129, 255, 256, 299, 300)) {
            dueDelta("a source of " + n, differed(part(OLD, 0, n), bytesOf("abc")),
                window(source(n), 3, bytesOf("abc"), row(4), EMPTY));
        }
    }

    // "when checked the window's check as four bytes, the highest first".
    private static void windowChecks() {
        int[] fresh = joined(times(256, 255), mixed(44, 3));
        DeltaFerry x = differed(EMPTY, fresh);
        int[] all = delta(
            window(row(4), 256, told(check(times(256, 255))), row(255), row(0, 130, 0), EMPTY),
            window(row(4), 44, told(check(mixed(44, 3))), mixed(44, 3), row(1, 44), EMPTY));
        due("each window's check", x.encode(true), all.length);
        dueFile("each window's check", x, 2, all);
        due("its first byte is above 127", all[17] > 127, true);
    }

    // "an ADD of ...": with its size in the code from 1 to 17; all numbers of two bytes from 128 on.
    private static void addSizes() {
        for (int n = 1; n <= 256; n++) {
            int[] codes = n <= 17 ? row(1 + n) : joined(row(1), number(n));
            dueDelta("ADD " + n, differed(EMPTY, mixed(n, 6)), window(row(0), n, mixed(n, 6), codes, EMPTY));
        }
    }

    // "0 RUN 0": its size is never in the code.
    private static void runSizes() {
        for (int n : row(4, 5, 17, 18, 19, 126, 127, 128, 129, 255, 256)) {
            dueDelta("RUN " + n, differed(EMPTY, times(n, 200)),
                window(row(0), n, row(200), joined(row(0), number(n)), EMPTY));
        }
        int[] fresh = EMPTY;
        int[] data = EMPTY;
        int[] codes = EMPTY;
        for (int i = 0; i < 64; i++) {
            fresh = joined(fresh, times(4, i));
            data = joined(data, row(i));
            codes = joined(codes, row(0, 4));
        }
        dueDelta("a part of 128 codes", differed(EMPTY, fresh), window(row(0), 256, data, codes, EMPTY));
    }

    /** Blocks of one size that are told before another one, so that this one is told by a mode; and how. */
    private static final class Telling {
        private static final int[] STEPS = {2, 5, 8, 11};
        final int mode;
        final int size;
        final int reach;
        int[] fresh = EMPTY;
        int[] codes = EMPTY;
        int[] addresses = EMPTY;
        int lastMode = NONE;

        Telling(int mode, int size) {
            this.mode = mode;
            this.size = size;
            reach = 300 / size * size;
            int high = (255 + size) / size;
            if (mode >= 2 && mode <= 5) {
                tell(0, STEPS[0], number(2 * size));
                for (int i = 1; i < mode - 1; i++) {
                    tell(1 + i, STEPS[i], number(3 * size));
                }
            } else if (mode == 6) {
                tell(0, 2, number(2 * size));
            } else if (mode == 7) {
                tell(1, high, number(reach - high * size));
            }
        }

        private void tell(int by, int index, int[] address) {
            fresh = joined(fresh, block(size, index));
            codes = joined(codes, copyCode(by, size));
            addresses = joined(addresses, address);
            lastMode = by;
        }

        /** The block that is meant, behind so many bytes that are added. */
        int[] meant() {
            int high = (255 + size) / size;
            int index = mode == 1 ? reach / size - 1 : mode >= 2 && mode <= 5 ? STEPS[mode - 2] + 2 : mode == 7 ? high : 2;
            return block(size, index);
        }

        int[] address(int added) {
            int high = (255 + size) / size;
            return mode == 1 ? number(size + added) : mode == 7 ? row(high * size - 256) : row(2 * size);
        }
    }

    private static int[] copyCode(int mode, int size) {
        return size >= 4 && size <= 18 ? row(19 + 16 * mode + size - 3) : joined(row(19 + 16 * mode), number(size));
    }

    // "otherwise one, with its size in the code if there is one": COPY 4 .. 18, in modes 0 .. 7.
    private static void copySizes() {
        for (int mode = 0; mode <= 7; mode++) {
            for (int size = 4; size <= 20; size++) {
                Telling t = new Telling(mode, size);
                int[] fresh = joined(t.fresh, t.meant());
                dueDelta("COPY " + size + " with mode " + mode, scanned(size, 256, fresh),
                    window(source(t.reach), fresh.length, EMPTY, joined(t.codes, copyCode(mode, size)),
                    joined(t.addresses, t.address(0))));
            }
        }
        for (int size : row(126, 127, 128, 129, 255, 256)) {
            dueDelta("COPY " + size, differed(OLD, part(OLD, 3, size)),
                window(source(300), size, EMPTY, copyCode(0, size), row(3)));
        }
    }

    // A copy that is cut where a window ends may have fewer than four bytes, for which there is no code.
    private static void copySizesBelowFour() {
        for (int n = 1; n <= 3; n++) {
            dueDelta("ADD and COPY " + n, scanned(8, 16, strange(16 - n), block(8, 2)),
                window(source(296), 16, strange(16 - n), row(17 - n, 19, n), row(16)),
                window(source(296), 8 - n, EMPTY, row(24 - n), row(16 + n)));
            dueDelta("ADD of few and COPY " + n, scanned(12, 16, block(12, 3), strange(4 - n), block(12, 1)),
                window(source(300), 16, strange(4 - n), row(28, 5 - n, 19, n), row(36, 12)),
                window(source(300), 12 - n, EMPTY, row(28 - n), row(12 + n)));
            dueDelta("COPY 4 and COPY " + n, scanned(4, 16, strange(12 - n), block(4, 5), block(4, 9)),
                window(source(300), 16, strange(12 - n), row(13 - n, 20, 51, n), row(20, 16)),
                window(source(300), 4 - n, EMPTY, row(19, 4 - n), row(36 + n)));
        }
    }

    // Mode 8 is that of addresses from 512 on: they are in the window. A COPY of 4 is never told by it.
    private static void copySizesInTheLastMode() {
        int[] piece = mixed(20, 88);
        for (int more : row(0, 3)) {
            for (int n = 5; n <= 13; n++) {
                int[] before = joined(mixed(212 + more, 80), part(piece, 0, n), row(1));
                int[] fresh = joined(before, part(piece, 0, n - 1), row(2), part(piece, 0, n));
                int[] codes = n == 5 ? row(248) : joined(copyCode(1, n - 1), row(2));
                dueDelta("COPY " + n + " with mode 8", differed(OLD, fresh),
                    window(source(300), fresh.length, joined(before, row(2)),
                    joined(row(1), number(before.length), codes, copyCode(8, n)), row(n + 1, more)));
            }
        }
    }

    private static int[] addCode(int size) {
        return size <= 17 ? row(1 + size) : joined(row(1), number(size));
    }

    // "two of one code when there is one for both with these sizes (an ADD of 1 .. 4 and a COPY of 4 .. 6 behind it ...)".
    private static void addAndCopy() {
        for (int mode = 0; mode <= 7; mode++) {
            for (int size = 4; size <= 7; size++) {
                for (int added : row(1, 2, 3, 4, 5, 6, 17, 18)) {
                    Telling t = new Telling(mode, size);
                    int[] fresh = joined(t.fresh, strange(added), t.meant());
                    int[] codes = joined(t.codes, addCode(added), copyCode(mode, size));
                    if (size == 4 && added == 1 && t.lastMode >= 0) {
                        // The COPY before and the ADD have a code, which comes first.
                        int[] but = part(t.codes, 0, t.codes.length - 1);
                        codes = joined(but, row(247 + t.lastMode), copyCode(mode, size));
                    } else if (added <= 4 && mode <= 5 && size <= 6) {
                        codes = joined(t.codes, row(163 + 12 * mode + 3 * (added - 1) + size - 4));
                    } else if (added <= 4 && mode >= 6 && size == 4) {
                        codes = joined(t.codes, row(235 + 4 * (mode - 6) + added - 1));
                    }
                    dueDelta("ADD " + added + ", COPY " + size + " with mode " + mode, scanned(size, 256, fresh),
                        window(source(t.reach), fresh.length, strange(added), codes,
                        joined(t.addresses, t.address(added))));
                }
            }
        }
        // With mode 6, and nothing told before: address 0.
        for (int added = 1; added <= 5; added++) {
            int[] codes = added <= 4 ? row(235 + added - 1) : row(6, 116);
            dueDelta("ADD " + added + ", COPY 4 from address 0", scanned(4, 256, strange(added), block(4, 0)),
                window(source(300), added + 4, strange(added), codes, row(0)));
        }
    }

    // "or a COPY of 4 and an ADD of 1".
    private static void copyAndAdd() {
        for (int mode = 0; mode <= 7; mode++) {
            for (int size = 4; size <= 6; size++) {
                for (int added : row(1, 2, 3)) {
                    Telling t = new Telling(mode, size);
                    int[] fresh = joined(t.fresh, t.meant(), strange(added));
                    int[] codes = size == 4 && added == 1 ? row(247 + mode)
                        : joined(copyCode(mode, size), addCode(added));
                    dueDelta("COPY " + size + " with mode " + mode + ", ADD " + added, scanned(size, 256, fresh),
                        window(source(t.reach), fresh.length, strange(added), joined(t.codes, codes),
                        joined(t.addresses, t.address(0))));
                }
            }
        }
    }

    // "Codes from the first instruction on".
    private static void codesFromTheFirstOn() {
        int[] a = row(1);
        int[] b = row(2);
        dueDelta("COPY, ADD, COPY", scanned(4, 256, block(4, 5), a, block(4, 10)),
            window(source(300), 9, a, row(247, 52), row(20, 20)));
        dueDelta("ADD, COPY, ADD", scanned(4, 256, a, block(4, 5), b),
            window(source(300), 6, row(1, 2), row(163, 2), row(20)));
        dueDelta("ADD, COPY, ADD, COPY", scanned(4, 256, a, block(4, 5), b, block(4, 10)),
            window(source(300), 10, row(1, 2), row(163, 187), row(20, 20)));
        dueDelta("COPY, ADD, COPY, ADD", scanned(4, 256, block(4, 5), a, block(4, 10), b),
            window(source(300), 10, row(1, 2), row(247, 249), row(20, 20)));
        dueDelta("COPY, COPY, ADD", scanned(4, 256, block(4, 5), block(4, 10), a),
            window(source(300), 9, a, row(20, 249), row(20, 20)));
        dueDelta("ADD, RUN, ADD", differed(EMPTY, bytesOf("xyyyyz")),
            window(row(0), 6, bytesOf("xyz"), row(2, 0, 4, 2), EMPTY));
        dueDelta("RUN, COPY, RUN", differed(OLD, times(4, 7), part(OLD, 20, 4), times(4, 8)),
            window(source(300), 12, row(7, 8), row(0, 4, 20, 0, 4), row(20)));
    }

    // "No instruction goes from one window into the next", nor do two of one code.
    private static void noCodeForTwoWindows() {
        dueDelta("ADD 4, and COPY 4 in the next window",
            scanned(4, 16, block(4, 5), block(4, 9), block(4, 13), strange(4), block(4, 20)),
            window(source(300), 16, strange(4), row(20, 52, 68, 5), row(20, 16, 16)),
            window(source(300), 4, EMPTY, row(20), row(80)));
        dueDelta("COPY 4, and ADD 1 in the next window", scanned(4, 16, strange(12), block(4, 5), row(1)),
            window(source(300), 16, strange(12), row(13, 20), row(20)),
            window(source(300), 1, row(1), row(2), EMPTY));
    }

    // Addresses "as a number": of one byte up to 127, of two from 128 on.
    private static void addressNumbers() {
        for (int address : row(1, 2, 126, 127, 128, 129, 149)) {
            dueDelta("address " + address, differed(OLD, part(OLD, address, 5)),
                window(source(300), 5, EMPTY, row(21), number(address)));
        }
        for (int less : row(149, 129, 128, 127, 126, 5)) {
            dueDelta("HERE less " + less, differed(OLD, part(OLD, 300 - less, 5)),
                window(source(300), 5, EMPTY, row(37), number(less)));
        }
    }

    // "HERE be the source's size and how much of the window there is"; "by the mode whose number is least".
    private static void addressOfTheLeastNumber() {
        for (int before : row(18, 20, 22)) {
            int middle = (300 + before) / 2;
            for (int address = middle - 1; address <= middle + 1; address++) {
                boolean fromHere = address > middle;
                dueDelta("address " + address + " behind " + before,
                    differed(OLD, strange(before), part(OLD, address, 5)),
                    window(source(300), before + 5, strange(before), row(1, before, fromHere ? 37 : 21),
                    number(fromHere ? 300 + before - address : address)));
            }
        }
        // An address above is of no use: the first row tells what is behind.
        dueDelta("an address that is greater", scanned(4, 256, block(4, 20), block(4, 18)),
            window(source(300), 8, EMPTY, row(20, 20), row(80, 72)));
        dueDelta("an address that is less", scanned(4, 256, block(4, 18), block(4, 20)),
            window(source(300), 8, EMPTY, row(20, 52), row(72, 8)));
    }

    // "(of the least mode with that)".
    private static void addressOfTheLeastMode() {
        dueDelta("modes 0 and 1, and 2 .. 5", differed(OLD, part(OLD, 150, 5)),
            window(source(300), 5, EMPTY, row(21), number(150)));
        dueDelta("modes 1 and 2", scanned(4, 256, block(4, 50), block(4, 63)),
            window(source(300), 8, EMPTY, row(36, 36), row(100, 52)));
        dueDelta("modes 2 and 3", scanned(4, 256, block(4, 10), block(4, 10), block(4, 12)),
            window(source(300), 12, EMPTY, row(20, 116, 52), row(40, 40, 8)));
        dueDelta("modes 0 and 3, which has 0 still", scanned(4, 256, block(4, 60), block(4, 10)),
            window(source(300), 8, EMPTY, row(36, 20), row(60, 40)));
    }

    // "but if it is in the second row, by that".
    private static void addressInTheSecondRow() {
        dueDelta("address 0, with no address told", scanned(4, 256, block(4, 0)),
            window(source(300), 4, EMPTY, row(116), row(0)));
        dueDelta("address 0, again", scanned(4, 256, block(4, 0), block(4, 0)),
            window(source(300), 8, EMPTY, row(116, 116), row(0, 0)));
        dueDelta("address 255", scanned(5, 256, block(5, 51), block(5, 51)),
            window(source(300), 10, EMPTY, row(37, 117), row(45, 255)));
        dueDelta("address 256", scanned(4, 256, block(4, 64), block(4, 64)),
            window(source(300), 8, EMPTY, row(36, 132), row(44, 0)));
        dueDelta("address 128, in one byte", scanned(4, 256, block(4, 32), block(4, 32)),
            window(source(300), 8, EMPTY, row(20, 116), row(129, 0, 128)));
        dueDelta("an address that is no more in the first row",
            scanned(4, 256, block(4, 60), block(4, 50), block(4, 40), block(4, 30), block(4, 20), block(4, 60)),
            window(source(300), 24, EMPTY, row(36, 36, 36, 20, 20, 116), row(60, 104, 129, 20, 120, 80, 240)));
    }

    // "each address that is told then becomes that of the first row whose turn it is (0, 1, .., and round again)".
    private static void firstRowGoesRound() {
        int[] fresh = EMPTY;
        for (int index : row(60, 50, 40, 30, 20, 10, 42, 31, 21, 11)) {
            fresh = joined(fresh, block(4, index));
        }
        dueDelta("the first row goes round", scanned(4, 256, fresh),
            window(source(300), 40, EMPTY, row(36, 36, 36, 20, 20, 20, 84, 100, 52, 68),
            row(60, 104, 129, 20, 120, 80, 40, 8, 4, 4, 4)));
    }

    // "In both rows all are 0 at a window's beginning".
    private static void rowsAreEmptyInEachWindow() {
        int[] same = joined(block(4, 5), block(4, 10), block(4, 5), block(4, 10));
        int[] sameWindow = window(source(300), 16, EMPTY, row(20, 52, 116, 116), row(20, 20, 20, 40));
        dueDelta("the second row", scanned(4, 16, same, same, same), sameWindow, sameWindow, sameWindow);
        int[] near = joined(block(4, 5), block(4, 10), block(4, 15), strange(4));
        int[] nearWindow = window(source(300), 16, strange(4), row(20, 52, 68, 5), row(20, 20, 20));
        dueDelta("the first row, and its turn", scanned(4, 16, near, near, near), nearWindow, nearWindow, nearWindow);
    }
}
