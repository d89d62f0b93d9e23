/** Promises 10 to 13 at their edges: each sentence of the document that names one. */
public final class PlanEdgesTest extends Deltas {
    private static final int[] NO_WINDOWS = {15, 257, 0, -1, -16, -256, 1 << 16, MIN, MAX};

    public static void main(String[] args) {
        signTakesWholeBlocks();
        signRefusesOtherBlocks();
        signOfNothing();
        signOfTheMostBlocks();
        signAnewForgetsTheOlderOne();
        signLeavesThePlan();
        scanWithoutASignature();
        scanRefusesOtherWindows();
        scanOfNothing();
        scanOfLessThanABlock();
        scanAtTheEndOfNew();
        scanOfWhatIsLeftBehindTheLastBlock();
        scanGoesOnByOneByte();
        scanGoesOnBehindABlock();
        scanTakesTheFirstSuchBlock();
        scanWantsTheDigestToo();
        scanJoinsWhatGoesOn();
        scanCutsWhereWindowsEnd();
        scanOfBlocksLongerThanWindows();
        scanByOldAsItWas();
        scanOfFullFiles();
        differRefusesOtherChains();
        differRefusesOtherWindows();
        differOfNothing();
        differRunsOfFour();
        differRunOrCopy();
        differRunsEndWithTheWindow();
        differWithFourLeft();
        differCandidatesAreBelow();
        differCandidatesInTheSourceEndThere();
        differCandidatesOfAChain();
        differTakesTheMostAndTheGreatest();
        differMatchesEndWithTheWindow();
        differMatchesReachIntoWhatTheyMake();
        differGoesBack();
        differDoesNotGoBack();
        differWindowsByThemselves();
        differByOldAsItIsThen();
        differOfFullFiles();
        lastWindowIsLess();
        instructionOfNoNumber();
        instructionOfNoWhat();
        instructionOfNoPlan();
        planIsGivenUp();
        planIsNotGivenUp();
        finish("PlanEdgesTest");
    }

    // Terms: "each whole block of OLD ... what is left behind the last one has none".
    private static void signTakesWholeBlocks() {
        for (int block : row(4, 5, 8, 63, 64)) {
            for (int blocks = 0; blocks < 4; blocks++) {
                for (int more : row(0, 1, block - 1)) {
                    DeltaFerry x = with(mixed(blocks * block + more, 1), EMPTY);
                    due(blocks + " blocks of " + block + " and " + more, x.sign(block), blocks);
                }
            }
        }
    }

    // Promise 10: "NONE, refused, when block is not 4 .. 64."
    private static void signRefusesOtherBlocks() {
        int[] old = mixed(256, 1);
        DeltaFerry x = with(old, part(old, 128, 64));
        due("sign 4", x.sign(4), 64);
        due("sign 64", x.sign(64), 4);
        for (int block : row(3, 65, 0, 1, -1, -4, -64, 128, 1 << 16, MIN, MAX)) {
            due("sign " + block, x.sign(block), NONE);
        }
        due("refused, it leaves the signature", x.scan(256), 1);
        duePlan("refused, it leaves the signature", x, copy(64, 128, 0));
    }

    private static void signOfNothing() {
        DeltaFerry x = with("", "abcd");
        due("sign of an empty file", x.sign(4), 0);
        due("is a signature", x.scan(16), 1);
        duePlan("without a block", x, add(4, 0));
        due("encode", x.encode(false), 17);
        due("and without a source", x.at(2, 5), 0);
        DeltaFerry y = with("abc", "abc");
        due("sign of less than a block", y.sign(4), 0);
        due("is a signature", y.scan(16), 1);
        duePlan("without a block", y, add(3, 0));
    }

    private static void signOfTheMostBlocks() {
        int[] old = mixed(300, 2);
        DeltaFerry x = with(old, part(old, 296, 4));
        due("sign of 300 bytes", x.sign(4), 75);
        x.scan(16);
        duePlan("the last of 75 blocks", x, copy(4, 296, 0));
        due("sign of 300 bytes", x.sign(5), 60);
        fill(x, 1, part(old, 295, 5));
        x.scan(16);
        duePlan("the last of 60 blocks", x, copy(5, 295, 0));
    }

    private static void signAnewForgetsTheOlderOne() {
        DeltaFerry x = with("abcdefghijkl", "ijklabcd");
        due("sign", x.sign(4), 3);
        fill(x, 0, "abcd");
        due("sign of fewer blocks", x.sign(4), 1);
        x.scan(16);
        duePlan("blocks that there were", x, add(4, 0), copy(4, 0, 0));
        fill(x, 0, "ijkl");
        x.sign(4);
        x.scan(16);
        duePlan("another block", x, copy(4, 0, 0), add(4, 0));
        x.clear(0);
        due("sign of nothing", x.sign(4), 0);
        x.scan(16);
        duePlan("no block", x, add(8, 0));
    }

    private static void signLeavesThePlan() {
        DeltaFerry x = with("abcdefgh", "abcdefgh");
        x.sign(4);
        x.scan(16);
        x.clear(0);
        x.sign(64);
        duePlan("sign leaves the plan", x, copy(8, 0, 0));
        due("encode", x.encode(false), 16);
        due("and its source's size", x.at(2, 6), 8);
    }

    // Promise 11: "NONE, refused, when there is no signature".
    private static void scanWithoutASignature() {
        DeltaFerry x = with("abcdefgh", "abcdefgh");
        due("differ", x.differ(1, 16), 1);
        x.clear(0);
        due("scan without a signature", x.scan(16), NONE);
        duePlan("refused, it leaves the plan", x, copy(8, 0, 0));
    }

    // Promise 11: "or window is not 16 .. 256".
    private static void scanRefusesOtherWindows() {
        DeltaFerry x = with("abcdefgh", "abcdefgh");
        x.sign(4);
        due("scan 16", x.scan(16), 1);
        due("scan 256", x.scan(256), 1);
        x.sign(5);
        for (int window : NO_WINDOWS) {
            due("scan " + window, x.scan(window), NONE);
        }
        duePlan("refused, it leaves the plan", x, copy(8, 0, 0));
        DeltaFerry y = with("abcdefgh", "abcdefgh");
        y.sign(4);
        for (int window : NO_WINDOWS) {
            due("scan " + window, y.scan(window), NONE);
        }
        due("refused, it makes no plan", y.encode(false), NONE);
    }

    private static void scanOfNothing() {
        DeltaFerry x = with("abcdefgh", "");
        x.sign(4);
        due("scan of an empty file", x.scan(16), 0);
        duePlan("a plan of nothing", x);
        due("is a plan", x.encode(true), 5);
    }

    // Terms: "if the next BLOCK bytes of NEW have ..." - there may be fewer.
    private static void scanOfLessThanABlock() {
        for (int block : row(4, 8, 64)) {
            int[] old = mixed(2 * block, 3);
            DeltaFerry x = with(old, part(old, 0, block - 1));
            x.sign(block);
            x.scan(256);
            duePlan("one byte less than a block", x, add(block - 1, 0));
            fill(x, 1, part(old, 0, block));
            x.scan(256);
            duePlan("a block", x, copy(block, 0, 0));
            fill(x, 1, part(old, 0, block + 1));
            x.scan(256);
            duePlan("one byte more than a block", x, copy(block, 0, 0), add(1, 0));
            // Behind NEW's end, there still stand the bytes of what it was.
            fill(x, 1, part(old, 0, block));
            fill(x, 1, part(old, 0, block - 1));
            x.scan(256);
            duePlan("NEW's end", x, add(block - 1, 0));
        }
    }

    private static void scanAtTheEndOfNew() {
        DeltaFerry x = with("abcdefgh", "xxxefgh");
        x.sign(4);
        x.scan(16);
        duePlan("a block at NEW's end", x, add(3, 0), copy(4, 4, 0));
        fill(x, 1, "xxxefg");
        x.scan(16);
        duePlan("a block that is cut by NEW's end", x, add(6, 0));
        fill(x, 1, "xxxxxxxxxxxxxefghabc");
        x.scan(16);
        duePlan("a block that is cut by NEW's end", x, add(13, 0), copy(3, 4, 0), copy(1, 7, 1), add(3, 1));
    }

    // Terms: "what is left behind the last one has none"; "its REACH is the number of bytes in all these blocks".
    private static void scanOfWhatIsLeftBehindTheLastBlock() {
        DeltaFerry x = with("abcdefghijk", "hijkabcd");
        x.sign(4);
        x.scan(16);
        duePlan("what is left has no sum", x, add(4, 0), copy(4, 0, 0));
        x.encode(false);
        due("the source has REACH bytes", x.at(2, 6), 8);
        fill(x, 0, "abcdefghijkl");
        x.sign(4);
        x.scan(16);
        x.encode(false);
        due("the source has REACH bytes", x.at(2, 6), 12);
    }

    // Terms: "otherwise byte p is added, and p is one more".
    private static void scanGoesOnByOneByte() {
        for (int before = 0; before < 12; before++) {
            DeltaFerry x = with("abab", "a".repeat(before) + "abab");
            x.sign(4);
            x.scan(256);
            if (before == 0) {
                duePlan("a block", x, copy(4, 0, 0));
            } else {
                duePlan("a block behind " + before, x, add(before, 0), copy(4, 0, 0));
            }
        }
    }

    // Terms: "they are copied ..., and p is behind them".
    private static void scanGoesOnBehindABlock() {
        DeltaFerry x = with("abab", "ababab");
        x.sign(4);
        x.scan(16);
        duePlan("p is behind the block", x, copy(4, 0, 0), add(2, 0));
        fill(x, 0, "aaaa");
        fill(x, 1, "aaaaaaaaaaa");
        x.sign(4);
        x.scan(16);
        duePlan("p is behind the block", x, copy(4, 0, 0), copy(4, 0, 0), add(3, 0));
    }

    // Terms: "they are copied from the first such block".
    private static void scanTakesTheFirstSuchBlock() {
        DeltaFerry x = with("wxyzabcdabcdabcd", "abcdabcdabcd");
        x.sign(4);
        x.scan(16);
        duePlan("the first such block", x, copy(4, 4, 0), copy(4, 4, 0), copy(4, 4, 0));
        // Of two blocks with one weak sum, the second one is meant.
        fill(x, 0, 11, 8, 11, 10, 10, 10, 10, 10);
        fill(x, 1, 10, 10, 10, 10);
        due("weak sums", x.sum(0, 0, 4), x.sum(0, 4, 4));
        x.sign(4);
        x.scan(16);
        duePlan("the first with the same digest", x, copy(4, 4, 0));
    }

    // Terms: "the weak sum and the digest of a block".
    private static void scanWantsTheDigestToo() {
        DeltaFerry x = with(row(10, 10, 10, 10), row(11, 8, 11, 10));
        due("weak sums", x.sum(0, 0, 4), x.sum(1, 0, 4));
        x.sign(4);
        x.scan(16);
        duePlan("the weak sum alone", x, add(4, 0));
    }

    // Terms: "Copies (additions) one behind the other become one, when the address goes on".
    private static void scanJoinsWhatGoesOn() {
        DeltaFerry x = with("abcdefghijkl", "abcdefghijkl");
        x.sign(4);
        x.scan(16);
        duePlan("the address goes on", x, copy(12, 0, 0));
        fill(x, 1, "efghijklabcd");
        x.scan(16);
        duePlan("the address does not", x, copy(8, 4, 0), copy(4, 0, 0));
        fill(x, 1, "ijklefghabcd");
        x.scan(16);
        duePlan("the address does not", x, copy(4, 8, 0), copy(4, 4, 0), copy(4, 0, 0));
        fill(x, 1, "abcd-efgh");
        x.scan(16);
        duePlan("it goes on, but not one behind the other", x, copy(4, 0, 0), add(1, 0), copy(4, 4, 0));
        fill(x, 1, "1234567");
        x.scan(16);
        duePlan("additions", x, add(7, 0));
        fill(x, 1, "12abcd34abcd56");
        x.scan(16);
        duePlan("additions with a copy between", x, add(2, 0), copy(4, 0, 0), add(2, 0), copy(4, 0, 0), add(2, 0));
    }

    // Terms: "then they are cut where windows end"; "No instruction goes from one window into the next."
    private static void scanCutsWhereWindowsEnd() {
        int[] old = mixed(96, 4);
        int[] other = mixed(48, 5);
        DeltaFerry x = with(old, old);
        x.sign(8);
        x.scan(32);
        duePlan("a copy", x, copy(32, 0, 0), copy(32, 32, 1), copy(32, 64, 2));
        x.scan(95);
        duePlan("a copy", x, copy(95, 0, 0), copy(1, 95, 1));
        x.scan(96);
        duePlan("a copy", x, copy(96, 0, 0));
        x.scan(97);
        duePlan("a copy", x, copy(96, 0, 0));
        fill(x, 1, other);
        x.scan(16);
        duePlan("additions", x, add(16, 0), add(16, 1), add(16, 2));
        x.scan(47);
        duePlan("additions", x, add(47, 0), add(1, 1));
        fill(x, 1, joined(part(other, 0, 16), part(old, 0, 16), part(other, 16, 16)));
        x.scan(16);
        duePlan("they end where windows end", x, add(16, 0), copy(16, 0, 1), add(16, 2));
        fill(x, 1, joined(part(other, 0, 15), part(old, 0, 16), part(other, 16, 17)));
        x.scan(16);
        duePlan("one byte before", x, add(15, 0), copy(1, 0, 0), copy(15, 1, 1), add(1, 1), add(16, 2));
        fill(x, 1, joined(part(other, 0, 17), part(old, 0, 16), part(other, 17, 15)));
        x.scan(16);
        duePlan("one byte behind", x, add(16, 0), add(1, 1), copy(15, 0, 1), copy(1, 15, 2), add(15, 2));
    }

    private static void scanOfBlocksLongerThanWindows() {
        int[] old = mixed(64, 6);
        DeltaFerry x = with(old, joined(row(1), old, row(2)));
        x.sign(64);
        due("scan", x.scan(16), 7);
        duePlan("a block of 64 in windows of 16", x, add(1, 0), copy(15, 0, 0), copy(16, 15, 1), copy(16, 31, 2),
            copy(16, 47, 3), copy(1, 63, 4), add(1, 4));
    }

    // Terms: "(blocks as the signature has them, whatever OLD is now)".
    private static void scanByOldAsItWas() {
        DeltaFerry x = with("abcdefgh", "abcdefghwxyz");
        x.sign(4);
        fill(x, 0, "wxyzwxyzwxyzwxyz");
        x.scan(16);
        duePlan("OLD as it was", x, copy(8, 0, 0), add(4, 0));
        x.encode(false);
        due("its REACH", x.at(2, 6), 8);
        x.set(0, 0, 'a');
        x.clear(0);
        x.scan(16);
        duePlan("OLD as it was", x, copy(8, 0, 0), add(4, 0));
        x.encode(false);
        due("the source is not empty", x.at(2, 5), 1);
        due("its REACH", x.at(2, 6), 8);
    }

    private static void scanOfFullFiles() {
        int[] bytes = mixed(300, 7);
        DeltaFerry x = with(bytes, bytes);
        x.sign(4);
        due("scan of 300 bytes", x.scan(256), 2);
        duePlan("scan of 300 bytes", x, copy(256, 0, 0), copy(44, 256, 1));
        due("scan of 300 bytes", x.scan(16), 19);
        due("the last address", x.instruction(18, 2), 288);
        due("the last size", x.instruction(18, 1), 12);
        due("the last window", x.instruction(18, 3), 18);
        x.sign(7);
        x.scan(256);
        duePlan("blocks of 7", x, copy(256, 0, 0), copy(38, 256, 1), add(6, 1));
    }

    // Promise 12: "NONE, refused, when chain is not 1 .. 16".
    private static void differRefusesOtherChains() {
        DeltaFerry x = with("abcdefgh", "abcdefgh");
        due("differ with a chain of 1", x.differ(1, 16), 1);
        due("differ with a chain of 16", x.differ(16, 16), 1);
        x.clear(0);
        for (int chain : row(0, 17, -1, -16, 256, MIN, MAX)) {
            due("differ with a chain of " + chain, x.differ(chain, 16), NONE);
        }
        duePlan("refused, it leaves the plan", x, copy(8, 0, 0));
        due("refused, it makes no plan", with("a", "a").differ(0, 16), NONE);
    }

    // Promise 12: "or window not 16 .. 256".
    private static void differRefusesOtherWindows() {
        DeltaFerry x = with("abcdefgh", "abcdefgh");
        due("differ in windows of 16", x.differ(1, 16), 1);
        due("differ in windows of 256", x.differ(1, 256), 1);
        x.clear(0);
        for (int window : NO_WINDOWS) {
            due("differ in windows of " + window, x.differ(1, window), NONE);
            due("differ in windows of " + window, x.differ(0, window), NONE);
        }
        duePlan("refused, it leaves the plan", x, copy(8, 0, 0));
        DeltaFerry y = with("abcdefgh", "abcdefgh");
        y.differ(1, 15);
        due("refused, it makes no plan", y.encode(false), NONE);
    }

    private static void differOfNothing() {
        DeltaFerry x = with("abcdefgh", "");
        due("differ of an empty file", x.differ(1, 16), 0);
        duePlan("a plan of nothing", x);
        due("is a plan", x.encode(true), 5);
        DeltaFerry y = with("", "x");
        due("differ of one byte", y.differ(16, 256), 1);
        duePlan("differ of one byte", y, add(1, 0));
        due("no signature is needed", y.scan(16), NONE);
    }

    private static void duePlanOf(String what, String old, String fresh, int[]... want) {
        DeltaFerry x = with(old, fresh);
        due(what, x.differ(16, 16), want.length);
        duePlan(what, x, want);
    }

    // Terms: "If R is 4 or more".
    private static void differRunsOfFour() {
        duePlanOf("a run of 3", "", "aaa", add(3, 0));
        duePlanOf("a run of 4", "", "aaaa", run(4, 0));
        duePlanOf("a run of 5", "", "aaaaa", run(5, 0));
        duePlanOf("runs of 3", "", "aaabbb", add(6, 0));
        duePlanOf("runs of 4", "", "aaaabbbb", run(4, 0), run(4, 0));
        duePlanOf("a run between", "", "xaaaay", add(1, 0), run(4, 0), add(1, 0));
        duePlanOf("3 between", "", "xaaay", add(5, 0));
        duePlanOf("another byte between", "", "axaaa", add(5, 0));
        duePlanOf("another byte between", "", "aaxaaa", add(6, 0));
    }

    // Terms: "and not less than L".
    private static void differRunOrCopy() {
        duePlanOf("R is L", "-aaaa-", "aaaa", run(4, 0));
        duePlanOf("R is L", "-aaaaaaa-", "aaaa", run(4, 0));
        duePlanOf("R is one less than L", "-aaaab", "aaaab", copy(5, 1, 0));
        duePlanOf("R is one less than L, where the source ends", "-aaaa", "aaaab", run(4, 0), add(1, 0));
        duePlanOf("R is one more than L", "-aaaa-", "aaaaa", run(5, 0));
        duePlanOf("R is 3 and L is 4", "-aaab", "aaab", copy(4, 1, 0));
    }

    // Terms: "R is how many bytes from p on in the window are the same as byte p".
    private static void differRunsEndWithTheWindow() {
        for (int n = 13; n <= 23; n++) {
            DeltaFerry x = with(EMPTY, times(n, 7));
            x.differ(1, 16);
            if (n <= 16) {
                duePlan("a run of " + n, x, run(n, 0));
            } else {
                duePlan("a run of " + n, x, run(16, 0), n - 16 >= 4 ? run(n - 16, 1) : add(n - 16, 1));
            }
        }
        DeltaFerry x = with("", "0123456789abcyyyyyyyy");
        x.differ(1, 16);
        duePlan("3 at a window's end", x, add(16, 0), run(5, 1));
    }

    // Terms: "the same four bytes stand as at p (if so many are left in the window)".
    private static void differWithFourLeft() {
        duePlanOf("four are left", "abcdefgh", "abcd", copy(4, 0, 0));
        duePlanOf("three are left", "abcdefgh", "abc", add(3, 0));
        DeltaFerry x = with("abcdefgh", "0123456789!?abcdefg");
        x.differ(16, 16);
        duePlan("four are left", x, add(12, 0), copy(4, 0, 0), add(3, 1));
        fill(x, 1, "0123456789!?/abcdefgh");
        x.differ(16, 16);
        duePlan("three are left", x, add(16, 0), copy(5, 3, 1));
    }

    // Terms: "CANDIDATES are the addresses below that of p".
    private static void differCandidatesAreBelow() {
        duePlanOf("p's own address", "", "abcd", add(4, 0));
        duePlanOf("the window's first address", "", "abcdabcd", add(4, 0), copy(4, 0, 0));
        duePlanOf("the source's first address", "abcd", "abcd", copy(4, 0, 0));
        // The copy ends within the run, so that the address before p is a candidate, the only one of a chain of 1.
        DeltaFerry x = with("xyzwa-aaaab-", "xyzwaaaaab");
        x.differ(1, 16);
        duePlan("one below p", x, copy(5, 0, 0), run(4, 0), add(1, 0));
        x.differ(2, 16);
        duePlan("one below p, and one more", x, copy(5, 0, 0), copy(5, 6, 0));
    }

    // Terms: "those in the source only when they end there".
    private static void differCandidatesInTheSourceEndThere() {
        duePlanOf("they end where the source ends", "xyabcd", "abcd", copy(4, 2, 0));
        duePlanOf("one byte of four is in the window", "xyzabc", "dabcd!", add(6, 0));
        duePlanOf("two bytes of four are in the window", "xyzab", "cdabcd!", add(7, 0));
        duePlanOf("three bytes of four are in the window", "xyza", "bcdabcd!", add(8, 0));
        duePlanOf("all four are in the window", "xyz", "abcdabcd!", add(4, 0), copy(4, 3, 0), add(1, 0));
    }

    // Terms: "of these the greatest ones count, CHAIN of them at most".
    private static void differCandidatesOfAChain() {
        for (int chain = 1; chain <= 16; chain++) {
            for (int shorter = 0; shorter <= 16; shorter++) {
                DeltaFerry x = with("abcdef" + "abcd-".repeat(shorter), "abcdef");
                x.differ(chain, 16);
                if (shorter < chain) {
                    duePlan("a chain of " + chain + ", the last of " + (shorter + 1), x, copy(6, 0, 0));
                } else {
                    duePlan("a chain of " + chain + ", the last of " + (shorter + 1), x,
                        copy(4, 1 + 5 * shorter, 0), add(2, 0));
                }
            }
        }
        // Those of the window are greater than those of the source.
        DeltaFerry x = with("abcdef", "abcdQabcdef");
        x.differ(1, 16);
        duePlan("a chain of 1", x, copy(4, 0, 0), add(1, 0), copy(4, 6, 0), add(2, 0));
        x.differ(2, 16);
        duePlan("a chain of 2", x, copy(4, 0, 0), add(1, 0), copy(6, 0, 0));
        // Addresses with other bytes, or across the source's end, do not count.
        x = with("abcd-abcX-abXd-aXcd-Xbcd-ab", "cdabcd");
        x.differ(1, 16);
        duePlan("a chain of 1", x, add(2, 0), copy(4, 0, 0));
    }

    // Terms: "L is the most, of the greatest candidate with so many".
    private static void differTakesTheMostAndTheGreatest() {
        duePlanOf("the greatest of three", "abcd1abcd2abcd3", "abcd", copy(4, 10, 0));
        duePlanOf("the most", "abcd1abcd2abcd3", "abcd1", copy(5, 0, 0));
        duePlanOf("the most", "abcd1abcd2abcd3", "abcd2", copy(5, 5, 0));
        duePlanOf("the greatest with the most", "abcde1abcde2abcd3", "abcde", copy(5, 6, 0));
        duePlanOf("the greatest, in the window", "abcd1", "abcd2abcd", copy(4, 0, 0), add(1, 0), copy(4, 5, 0));
    }

    // Terms: "so many bytes of the window from p on".
    private static void differMatchesEndWithTheWindow() {
        DeltaFerry x = with("abcdefghijklmnopqrstuvwxyz", "abcdefghijklmnopqrstuvwxyz");
        x.differ(1, 16);
        duePlan("a match of 26", x, copy(16, 0, 0), copy(10, 16, 1));
        x.differ(1, 23);
        duePlan("3 are left", x, copy(23, 0, 0), add(3, 1));
        x.differ(1, 22);
        duePlan("4 are left", x, copy(22, 0, 0), copy(4, 22, 1));
    }

    // Terms: "(so that a copy may reach into what it makes)".
    private static void differMatchesReachIntoWhatTheyMake() {
        duePlanOf("by two", "", "ababababab", add(2, 0), copy(8, 0, 0));
        duePlanOf("by three", "", "abcabcabcabcab", add(3, 0), copy(11, 0, 0));
        duePlanOf("over the source's end", "abcd", "abcdabcdabcd", copy(12, 0, 0));
        duePlanOf("over the source's end", "zabcd", "efabcdefabcd!", add(2, 0), copy(10, 1, 0), add(1, 0));
    }

    // Terms: "as long as the byte before them would be added, and is the same as that before their address".
    private static void differGoesBack() {
        duePlanOf("by one", "z", "abcdQzabcdR", add(5, 0), copy(5, 0, 0), add(1, 0));
        duePlanOf("by two", "yz", "abcdQyzabcdR", add(5, 0), copy(6, 0, 0), add(1, 0));
        duePlanOf("by three", "xyz", "abcdQxyzabcdR", add(5, 0), copy(7, 0, 0), add(1, 0));
        duePlanOf("by four is a match of its own", "wxyz", "abcdQwxyzabcdR", add(5, 0), copy(8, 0, 0), add(1, 0));
        duePlanOf("not to address 0", "-z", "abcdQzabcdR", add(5, 0), copy(5, 1, 0), add(1, 0));
        duePlanOf("all that is added between", "z", "abcd----zabcdR", add(4, 0), run(4, 0), copy(5, 0, 0), add(1, 0));
    }

    private static void differDoesNotGoBack() {
        duePlanOf("another byte", "z", "abcdQyabcdR", add(6, 0), copy(4, 1, 0), add(1, 0));
        duePlanOf("another byte but one", "xYz", "abcdQxyzabcdR", add(7, 0), copy(5, 2, 0), add(1, 0));
        duePlanOf("below address 0", "", "abcdQabcdR", add(5, 0), copy(4, 0, 0), add(1, 0));
        duePlanOf("below address 0", "z", "abcdzzabcdR", add(5, 0), copy(5, 0, 0), add(1, 0));
        duePlanOf("what is run", "z", "abcdzzzzabcdR", add(4, 0), run(4, 0), copy(4, 1, 0), add(1, 0));
        duePlanOf("what is run, behind what is added", "yz", "abcdyyyyzabcdR",
            add(4, 0), run(4, 0), copy(5, 1, 0), add(1, 0));
        DeltaFerry x = with("z", "abcdefgz!efgzabcdR");
        x.differ(16, 32);
        duePlan("what is copied", x, add(9, 0), copy(4, 5, 0), copy(4, 1, 0), add(1, 0));
        x = with("yz", "abcdefgy!efgyzabcdR");
        x.differ(16, 32);
        duePlan("what is copied, behind what is added", x, add(9, 0), copy(4, 6, 0), copy(5, 1, 0), add(1, 0));
    }

    // Terms: "For each window by itself".
    private static void differWindowsByThemselves() {
        DeltaFerry x = with("", "abcdefghijklmnopabcdefghijklmnop");
        x.differ(16, 16);
        duePlan("the window before", x, add(16, 0), add(16, 1));
        x.differ(16, 20);
        duePlan("in one window", x, add(16, 0), copy(4, 0, 0), add(12, 1));
        x = with("1234567", "abcdefghijklmnopwxyzQwxyz");
        x.differ(16, 16);
        duePlan("addresses behind the source", x, add(16, 0), add(5, 1), copy(4, 7, 1));
    }

    // Terms: "the source is OLD as it is then (what is done to OLD later leaves the plan, and its source's size ...)".
    private static void differByOldAsItIsThen() {
        DeltaFerry x = with("abcdefgh", "abcdefgh");
        x.sign(4);
        fill(x, 0, "..efgh");
        x.differ(1, 16);
        duePlan("OLD as it is then", x, add(4, 0), copy(4, 2, 0));
        for (int way = 0; way < 4; way++) {
            switch (way) {
                case 0: x.set(0, 0, 'a'); break;
                case 1: x.put(0, 1, 8); break;
                case 2: x.copy(1, 0); break;
                default: x.clear(0); break;
            }
            duePlan("OLD is another one later", x, add(4, 0), copy(4, 2, 0));
            x.encode(false);
            due("its source's size", x.at(2, 6), 6);
            due("its source is not empty", x.at(2, 5), 1);
        }
    }

    private static void differOfFullFiles() {
        int[] bytes = mixed(300, 8);
        DeltaFerry x = with(bytes, bytes);
        x.differ(16, 256);
        duePlan("300 bytes", x, copy(256, 0, 0), copy(44, 256, 1));
        fill(x, 1, joined(mixed(252, 9), part(bytes, 296, 4), part(bytes, 0, 44)));
        x.differ(16, 256);
        duePlan("the last four of 300", x, add(252, 0), copy(4, 296, 0), copy(44, 0, 1));
        int[] fresh = mixed(128, 9);
        fill(x, 1, joined(fresh, fresh));
        x.differ(16, 256);
        duePlan("addresses from 300 on", x, add(128, 0), copy(128, 300, 0));
    }

    // Terms: "WINDOWS of a size (the last one perhaps less)".
    private static void lastWindowIsLess() {
        for (int window : row(16, 17, 100, 256)) {
            for (int n : row(1, window - 1, window, Math.min(300, window + 1), Math.min(300, 2 * window))) {
                DeltaFerry x = with(EMPTY, mixed(n, 10));
                int windows = (n + window - 1) / window;
                int last = n - (windows - 1) * window;
                x.sign(4);
                for (int way = 0; way < 2; way++) {
                    due(n + " by " + window, way == 0 ? x.scan(window) : x.differ(1, window), windows);
                    due("the last one's window", x.instruction(windows - 1, 3), windows - 1);
                    due("the last one's size", x.instruction(windows - 1, 1), last);
                    due("none behind", x.instruction(windows, 3), NONE);
                }
            }
        }
    }

    private static DeltaFerry withThree() {
        DeltaFerry x = with("abcdefgh", "zabcdefghyyyyy");
        due("differ", x.differ(4, 16), 3);
        return x;
    }

    // Promise 13: "NONE when there is no such instruction".
    private static void instructionOfNoNumber() {
        DeltaFerry x = withThree();
        for (int i : row(-1, 3, 4, -3, 300, MIN, MAX)) {
            for (int what = 0; what < 4; what++) {
                due("instruction " + i + ", " + what, x.instruction(i, what), NONE);
            }
        }
        fill(x, 1, "z");
        x.differ(1, 16);
        duePlan("instructions that there were", x, add(1, 0));
        due("instructions that there were", x.instruction(2, 0), NONE);
    }

    // Promise 13: "2 a COPY's address (NONE of others)"; "or what is none of these".
    private static void instructionOfNoWhat() {
        DeltaFerry x = withThree();
        due("an ADD's address", x.instruction(0, 2), NONE);
        due("a COPY's address 0", x.instruction(1, 2), 0);
        due("a RUN's address", x.instruction(2, 2), NONE);
        for (int what : row(-1, 4, 5, -4, 256, MIN, MAX)) {
            for (int i = 0; i < 3; i++) {
                due("what " + what, x.instruction(i, what), NONE);
            }
        }
    }

    private static void instructionOfNoPlan() {
        DeltaFerry x = with("abcd", "abcd");
        for (int what = -1; what < 5; what++) {
            due("of no plan", x.instruction(0, what), NONE);
        }
        x.clear(1);
        x.differ(1, 16);
        for (int what = -1; what < 5; what++) {
            due("of a plan of nothing", x.instruction(0, what), NONE);
        }
    }

    private static void change(DeltaFerry x, int way) {
        switch (way) {
            case 0: due("put", x.put(1, 1, 1), true); break;
            case 1: due("set", x.set(1, 7, 'H'), true); break;
            case 2: due("set to what it is", x.set(1, 0, 'a'), true); break;
            case 3: due("copy to NEW", x.copy(2, 1), true); break;
            case 4: due("copy of the same", x.copy(0, 1), true); break;
            case 5: due("copy to itself", x.copy(1, 1), true); break;
            default: due("clear", x.clear(1), 8); break;
        }
    }

    // Promise 13: "The plan is given up by put, set, copy and clear of NEW that are not refused, whatever they change."
    private static void planIsGivenUp() {
        for (int way = 0; way < 7; way++) {
            for (int made = 0; made < 2; made++) {
                DeltaFerry x = with("abcdefgh", "abcdefgh");
                x.sign(4);
                due("plan", made == 0 ? x.scan(16) : x.differ(1, 16), 1);
                fill(x, 2, "delta");
                change(x, way);
                for (int what = 0; what < 4; what++) {
                    due("given up, way " + way, x.instruction(0, what), NONE);
                }
                due("given up, way " + way, x.encode(true), NONE);
                dueFile("DELTA stays", x, 2, bytesOf("delta"));
                due("the signature is not given up", x.scan(16) != NONE, true);
            }
        }
        DeltaFerry x = new DeltaFerry();
        x.differ(1, 16);
        due("clear of nothing", x.clear(1), 0);
        due("given up", x.encode(true), NONE);
        x.differ(1, 16);
        due("copy of nothing", x.copy(0, 1), true);
        due("given up", x.encode(true), NONE);
    }

    private static void planIsNotGivenUp() {
        int[] fresh = mixed(300, 11);
        DeltaFerry x = with(fresh, fresh);
        x.differ(1, 256);
        fill(x, 2, mixed(301, 1));
        due("put of 0", x.put(1, 0, 0), false);
        due("put of 9", x.put(1, 0, 9), false);
        due("put without room", x.put(1, 0, 1), false);
        due("set of no place", x.set(1, 300, 1), false);
        due("set of no place", x.set(1, -1, 1), false);
        due("copy of no file", x.copy(4, 1), false);
        due("copy that is too long", x.copy(2, 1), false);
        due("clear of no file", x.clear(4), NONE);
        due("clear of no file", x.clear(-1), NONE);
        duePlan("not given up by what is refused", x, copy(256, 0, 0), copy(44, 256, 1));
        x.put(2, 1, 1);
        x.set(2, 0, 1);
        x.copy(0, 2);
        x.clear(2);
        x.clear(3);
        x.set(0, 0, 1);
        x.copy(3, 0);
        x.put(0, 1, 1);
        x.clear(0);
        duePlan("not given up by other files", x, copy(256, 0, 0), copy(44, 256, 1));
        x.digest(1, 0);
        x.sum(1, 0, 1);
        x.sign(4);
        x.encode(true);
        x.decode();
        x.begin(4, 16);
        x.step();
        duePlan("not given up by other calls", x, copy(256, 0, 0), copy(44, 256, 1));
    }
}
