/** Promises 10 to 13: sign, scan, differ and instruction. */
public final class PlanTest extends Checks {
    public static void main(String[] args) {
        sign();
        scanRefused();
        scan();
        scanFirstBlock();
        scanCut();
        scanByOldAsItWas();
        differRefused();
        differRuns();
        differCandidates();
        differChain();
        differBackwards();
        differWindows();
        instruction();
        givenUp();
        finish("PlanTest");
    }

    private static void sign() {
        DeltaFerry x = new DeltaFerry();
        due("sign of nothing", x.sign(4), 0);
        fill(x, 0, mixed(300, 1));
        int[][] blocks = {{4, 75}, {5, 60}, {7, 42}, {8, 37}, {63, 4}, {64, 4}};
        for (int[] pair : blocks) {
            due("sign " + pair[0], x.sign(pair[0]), pair[1]);
        }
        for (int block : row(3, 65, 0, -1, -8, Integer.MIN_VALUE, Integer.MAX_VALUE)) {
            due("sign " + block, x.sign(block), NONE);
        }
        fill(x, 1, mixed(64, 1));
        due("sign refused leaves the signature", x.scan(256), 1);
        duePlan("blocks of 64", x, copy(64, 0, 0));
        fill(x, 0, "abc");
        due("sign of less than a block", x.sign(4), 0);
    }

    private static void scanRefused() {
        DeltaFerry x = with("abcdefgh", "abcdefgh");
        due("scan without a signature", x.scan(16), NONE);
        x.sign(4);
        due("scan", x.scan(16), 1);
        for (int window : row(15, 257, 0, -1, Integer.MIN_VALUE, Integer.MAX_VALUE)) {
            due("scan " + window, x.scan(window), NONE);
        }
        duePlan("scan refused leaves the plan", x, copy(8, 0, 0));
        due("scan 256", x.scan(256), 1);
        x.clear(1);
        due("scan of nothing", x.scan(16), 0);
        due("a plan of nothing is one", x.encode(false), 5);
    }

    private static void scan() {
        DeltaFerry x = with("abcdefghijklmn", "xyabcdefghzabcdijkl");
        due("sign", x.sign(4), 3);
        due("scan", x.scan(64), 5);
        duePlan("scan", x, add(2, 0), copy(8, 0, 0), add(1, 0), copy(4, 0, 0), copy(4, 8, 0));
        fill(x, 1, "klmn");
        x.scan(16);
        duePlan("what is left behind the last block is not known", x, add(4, 0));
        fill(x, 1, "abc");
        x.scan(16);
        duePlan("less than a block", x, add(3, 0));
        // What stood behind NEW's end before is not NEW.
        fill(x, 1, "abcdefgh");
        fill(x, 1, "abcdef");
        x.scan(16);
        duePlan("NEW as it is", x, copy(4, 0, 0), add(2, 0));
        x.differ(1, 16);
        duePlan("NEW as it is", x, copy(6, 0, 0));
        // Of other bytes with the same weak sum, the digest knows that they are not the block.
        fill(x, 0, 10, 10, 10, 10);
        fill(x, 1, 11, 8, 11, 10);
        due("weak sums", x.sum(0, 0, 4), x.sum(1, 0, 4));
        x.sign(4);
        x.scan(16);
        duePlan("the same weak sum alone", x, add(4, 0));
    }

    private static void scanFirstBlock() {
        DeltaFerry x = with("abcdabcdwxyz", "abcdwxyzabcdabcd");
        x.sign(4);
        due("scan", x.scan(16), 4);
        duePlan("the first such block", x, copy(4, 0, 0), copy(4, 8, 0), copy(4, 0, 0), copy(4, 0, 0));
    }

    private static void scanCut() {
        DeltaFerry x = new DeltaFerry();
        int[] old = mixed(48, 3);
        fill(x, 0, old);
        fill(x, 1, joined(mixed(10, 4), old, mixed(20, 5)));
        x.sign(8);
        due("scan", x.scan(16), 7);
        duePlan("cut where windows end", x, add(10, 0), copy(6, 0, 0), copy(16, 6, 1), copy(16, 22, 2),
            copy(10, 38, 3), add(6, 3), add(14, 4));
    }

    private static void scanByOldAsItWas() {
        DeltaFerry x = with("abcdefgh", "abcdefgh");
        x.sign(4);
        x.clear(0);
        due("scan", x.scan(16), 1);
        duePlan("OLD as it was", x, copy(8, 0, 0));
        fill(x, 1, "abcdxx");
        x.scan(16);
        x.encode(false);
        due("the source has REACH bytes", x.at(2, 6), 8);
    }

    private static void differRefused() {
        DeltaFerry x = with("abcdefgh", "abcdefgh");
        due("differ", x.differ(1, 16), 1);
        for (int chain : row(0, 17, -1, Integer.MIN_VALUE, Integer.MAX_VALUE)) {
            due("differ chain " + chain, x.differ(chain, 16), NONE);
        }
        for (int window : row(15, 257, 0, -1, Integer.MIN_VALUE, Integer.MAX_VALUE)) {
            due("differ window " + window, x.differ(16, window), NONE);
        }
        duePlan("differ refused leaves the plan", x, copy(8, 0, 0));
        due("differ", x.differ(16, 256), 1);
        x.clear(0);
        duePlan("OLD later leaves the plan", x, copy(8, 0, 0));
        x.encode(false);
        due("and its source's size", x.at(2, 6), 8);
        x.clear(1);
        due("differ of nothing", x.differ(1, 16), 0);
    }

    private static void differRuns() {
        DeltaFerry x = with("", "xaaaabbb");
        x.differ(16, 16);
        duePlan("a run of 4; 3 are added", x, add(1, 0), run(4, 0), add(3, 0));
        fill(x, 0, "zaaaazaaaaay");
        fill(x, 1, "aaaa");
        x.differ(16, 16);
        duePlan("R not less than L", x, run(4, 0));
        fill(x, 1, "aaaaay");
        x.differ(16, 16);
        duePlan("R less than L", x, copy(6, 6, 0));
        fill(x, 0, "");
        fill(x, 1, times(40, 7));
        due("differ", x.differ(1, 16), 3);
        duePlan("runs end with their window", x, run(16, 0), run(16, 1), run(8, 2));
    }

    private static void differCandidates() {
        DeltaFerry x = with("12345678----56789", "567812345678");
        x.differ(1, 32);
        duePlan("one copy behind the other", x, copy(4, 12, 0), copy(8, 0, 0));
        x = with("abcd1abcd2", "abcd");
        x.differ(16, 16);
        duePlan("the greatest of equal ones", x, copy(4, 5, 0));
        fill(x, 1, "abcd1");
        x.differ(16, 16);
        duePlan("the longest", x, copy(5, 0, 0));
        fill(x, 1, "abc");
        x.differ(16, 16);
        duePlan("fewer than four are left", x, add(3, 0));
        // Three bytes end the source, and the fourth would be the window's first.
        fill(x, 0, "xyzabc");
        fill(x, 1, "dabcd!");
        x.differ(16, 16);
        duePlan("candidates end in the source", x, add(6, 0));
        fill(x, 0, "xabcd");
        fill(x, 1, "efabcdef");
        x.differ(16, 16);
        duePlan("a match goes on into the window", x, add(2, 0), copy(6, 1, 0));
        fill(x, 0, "");
        fill(x, 1, "abcabcabcabcab");
        x.differ(16, 16);
        duePlan("a copy reaches into what it makes", x, add(3, 0), copy(11, 0, 0));
    }

    private static void differChain() {
        DeltaFerry x = with("abcdefg-abcdef-abcde-abcd-", "abcdefg");
        x.differ(1, 16);
        duePlan("a chain of 1", x, copy(4, 21, 0), add(3, 0));
        x.differ(2, 16);
        duePlan("a chain of 2", x, copy(5, 15, 0), add(2, 0));
        x.differ(3, 16);
        duePlan("a chain of 3", x, copy(6, 8, 0), add(1, 0));
        x.differ(4, 16);
        duePlan("a chain of 4", x, copy(7, 0, 0));
        fill(x, 0, "abcd-abcX-abXd-aXcd-Xbcd-");
        fill(x, 1, "abcd");
        x.differ(1, 16);
        duePlan("four bytes that are not the same do not count", x, copy(4, 0, 0));
        // In a run that has begun before, the address right before is a candidate, too.
        fill(x, 0, "xyzwa-aaaab-");
        fill(x, 1, "xyzwaaaaab");
        x.differ(1, 16);
        duePlan("the address before", x, copy(5, 0, 0), run(4, 0), add(1, 0));
        x.differ(2, 16);
        duePlan("and one more", x, copy(5, 0, 0), copy(5, 6, 0));
    }

    private static void differBackwards() {
        DeltaFerry x = new DeltaFerry();
        // A candidate that reaches over the source's end does not count, but a copy goes back over it.
        fill(x, 0, "uvwab");
        fill(x, 1, "cdefXabcdefY");
        x.differ(16, 16);
        duePlan("back into the source", x, add(5, 0), copy(6, 3, 0), add(1, 0));
        // Nothing is before address 0, though the byte before is added.
        fill(x, 0, "");
        fill(x, 1, "abcdZabcd");
        x.differ(16, 16);
        duePlan("address 0", x, add(5, 0), copy(4, 0, 0));
        fill(x, 0, "b");
        fill(x, 1, "cdefgbcdefgh");
        x.differ(16, 16);
        duePlan("one of an addition", x, add(5, 0), copy(6, 0, 0), add(1, 0));
        // The copy takes the whole addition.
        fill(x, 0, "qrs");
        fill(x, 1, "tuvwrrrrstuvw");
        x.differ(16, 16);
        duePlan("an addition that is gone", x, add(4, 0), run(4, 0), copy(5, 2, 0));
    }

    private static void differWindows() {
        DeltaFerry x = with("", "abcdefghijklmnopabcdefghijklmnop");
        x.differ(16, 16);
        duePlan("each window by itself", x, add(16, 0), add(16, 1));
        x.differ(16, 17);
        duePlan("windows of 17", x, add(17, 0), add(15, 1));
        x.differ(16, 32);
        duePlan("one window", x, add(16, 0), copy(16, 0, 0));
    }

    private static void instruction() {
        DeltaFerry x = with("abcdefgh", "zabcdefghyyyyy");
        due("differ", x.differ(4, 16), 3);
        duePlan("instruction", x, add(1, 0), copy(8, 0, 0), run(5, 0));
        for (int i : row(-1, 3, Integer.MIN_VALUE, Integer.MAX_VALUE)) {
            due("instruction " + i, x.instruction(i, 0), NONE);
        }
        for (int what : row(-1, 4, Integer.MIN_VALUE, Integer.MAX_VALUE)) {
            due("instruction, " + what, x.instruction(1, what), NONE);
        }
    }

    private static void givenUp() {
        for (int way = 0; way < 12; way++) {
            DeltaFerry x = with("abcdefgh", "abcdefgh");
            x.differ(4, 16);
            boolean gone = way < 5;
            switch (way) {
                case 0: x.put(1, 1, 1); break;
                case 1: x.set(1, 0, 'a'); break;
                case 2: x.copy(1, 1); break;
                case 3: x.copy(0, 1); break;
                case 4: x.clear(1); break;
                case 5: x.put(1, 1, 0); break;
                case 6: x.set(1, 8, 1); break;
                case 7: x.copy(4, 1); break;
                case 8: x.put(0, 1, 1); x.set(0, 0, 1); x.copy(1, 0); x.clear(0); break;
                case 9: x.put(2, 1, 1); x.set(2, 0, 1); x.copy(1, 2); x.clear(2); break;
                case 10: x.clear(3); x.decode(); x.sign(4); x.begin(4, 16); break;
                default: x.scan(16); x.differ(0, 16); x.step(); break;
            }
            due("plan, way " + way, x.instruction(0, 0), gone ? NONE : COPY);
            due("plan, way " + way, x.encode(false) == NONE, gone);
        }
        DeltaFerry x = new DeltaFerry();
        x.differ(1, 16);
        x.clear(1);
        due("clear of nothing gives the plan up", x.encode(false), NONE);
    }
}
