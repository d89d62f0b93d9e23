import java.util.ArrayList;
import java.util.List;

/** Promise 15: decode. */
public final class DecodeTest extends Deltas {
    public static void main(String[] args) {
        beginnings();
        additionsAndRuns();
        sources();
        copies();
        modes();
        addressesRefused();
        sizesOfNothing();
        numbers();
        windowBytes();
        parts();
        secondaries();
        large();
        checks();
        resultStays();
        everyCode();
        tables();
        tableModes();
        tableRows();
        tablesRefused();
        tableSizes();
        finish("DecodeTest");
    }

    private static void beginnings() {
        refused("nothing", "", EMPTY, BROKEN);
        for (int n = 1; n < 5; n++) {
            refused(n + " bytes", "", java.util.Arrays.copyOf(HEAD, n), BROKEN);
        }
        made("no window", "", HEAD, "");
        for (int i = 0; i < 4; i++) {
            int[] wrong = HEAD.clone();
            wrong[i] ^= 1;
            refused("byte " + i, "", wrong, BROKEN);
        }
        for (int fifth = 1; fifth < 256; fifth++) {
            int[] wrong = HEAD.clone();
            wrong[4] = fifth;
            refused("fifth byte " + fifth, "", wrong, fifth % 2 == 1 ? SECOND : BROKEN);
        }
    }

    private static void additionsAndRuns() {
        int[] none = row(0);
        made("ADD 3", "", delta(window(none, 3, bytesOf("abc"), row(4), EMPTY)), "abc");
        made("ADD 3, size told", "", delta(window(none, 3, bytesOf("abc"), row(1, 3), EMPTY)), "abc");
        made("RUN 5", "", delta(window(none, 5, row('z'), row(0, 5), EMPTY)), "zzzzz");
        made("RUN 2, ADD 1, RUN 1", "",
            delta(window(none, 4, bytesOf("zab"), row(0, 2, 2, 0, 1), EMPTY)), "zzab");
        made("two windows", "", delta(window(none, 1, row('a'), row(2), EMPTY),
            window(none, 2, bytesOf("bc"), row(3), EMPTY)), "abc");
        made("windows of nothing", "", delta(window(none, 0, EMPTY, EMPTY, EMPTY),
            window(row(1, 0, 0), 0, EMPTY, EMPTY, EMPTY), window(row(2, 0, 0), 0, EMPTY, EMPTY, EMPTY)), "");
    }

    private static void sources() {
        int[] copy4 = row(20);
        made("OLD", "abcdefgh", delta(window(row(1, 8, 0), 4, EMPTY, copy4, row(2))), "cdef");
        made("of OLD, from a place", "abcdefgh", delta(window(row(1, 5, 3), 4, EMPTY, copy4, row(1))), "efgh");
        refused("OLD has 8", "abcdefgh", delta(window(row(1, 9, 0), 4, EMPTY, copy4, row(2))), BROKEN);
        refused("OLD has 8", "abcdefgh", delta(window(row(1, 5, 4), 4, EMPTY, copy4, row(0))), BROKEN);
        refused("OLD has 8", "abcdefgh", delta(window(row(1, 0, 9), 0, EMPTY, EMPTY, EMPTY)), BROKEN);
        made("nothing at OLD's end", "abcdefgh", delta(window(row(1, 0, 8), 0, EMPTY, EMPTY, EMPTY)), "");
        refused("a great source", "abcdefgh",
            delta(window(row(1, 255, 255, 255, 127, 255, 255, 255, 127), 0, EMPTY, EMPTY, EMPTY)), BROKEN);
        int[] first = window(row(1, 8, 0), 6, bytesOf("xy"), row(3, 20), row(4));
        made("of the RESULT", "abcdefgh",
            delta(first, window(row(2, 4, 1), 5, EMPTY, row(21), row(0))), "xyefghyefgy");
        refused("the RESULT has 6", "abcdefgh",
            delta(first, window(row(2, 6, 1), 4, EMPTY, copy4, row(0))), BROKEN);
        refused("no RESULT yet", "abcdefgh", delta(window(row(2, 1, 0), 4, EMPTY, copy4, row(0))), BROKEN);
        for (int kind = 0; kind < 256; kind++) {
            if (kind > 7 || kind % 4 == 3) {
                refused("kind " + kind, "abcdefgh",
                    delta(window(row(kind, 0, 0), 0, EMPTY, EMPTY, EMPTY)), BROKEN);
                refused("kind " + kind, "abcdefgh", delta(window(row(kind), 0, EMPTY, EMPTY, EMPTY)), BROKEN);
            }
        }
        DeltaFerry x = read("an older RESULT", "abcd", delta(window(row(1, 4, 0), 4, EMPTY, copy4, row(0))), 4);
        fill(x, 2, delta(window(row(2, 4, 0), 4, EMPTY, copy4, row(0))));
        due("an older RESULT is no source", x.decode(), BROKEN);
    }

    private static void copies() {
        made("into what it makes", "", delta(window(row(0), 9, bytesOf("ab"),
            row(3, 19, 7), row(0))), "ababababa");
        made("over the source's end", "xyz", delta(window(row(1, 3, 0), 8, bytesOf("ab"),
            row(3, 22), row(1))), "abyzabyz");
        made("from the source's end on", "xyz", delta(window(row(1, 3, 0), 6, bytesOf("ab"),
            row(3, 20), row(3))), "ababab");
    }

    private static void modes() {
        String old = "abcdefghijklmnopqrstuvwxyz";
        int[] source = row(1, 26, 0);
        made("mode 1", old, delta(window(source, 4, EMPTY, row(36), row(26))), "abcd");
        made("mode 1, behind bytes", old,
            delta(window(source, 6, bytesOf("01"), row(3, 36), row(6))), "01wxyz");
        made("modes 2 .. 5", old, delta(window(source, 16, EMPTY, row(52, 68, 84, 100), row(1, 2, 3, 4))),
            "bcdecdefdefgefgh");
        made("modes 2 .. 5, told before", old, delta(window(source, 32, EMPTY,
            row(20, 20, 20, 20, 52, 68, 84, 100), row(0, 5, 10, 15, 1, 1, 1, 1))),
            "abcdfghiklmnpqrsbcdeghijlmnoqrst");
        made("the turn comes round", old, delta(window(source, 24, EMPTY,
            row(20, 20, 20, 20, 20, 52), row(0, 5, 10, 15, 20, 1))), "abcdfghiklmnpqrsuvwxvwxy");
        made("modes 6 .. 8 at a window's beginning", old,
            delta(window(source, 12, EMPTY, row(116, 132, 148), row(7, 8, 9))), "abcdabcdabcd");
        made("mode 6", old, delta(window(source, 8, EMPTY, row(20, 116), row(7, 7))), "hijkhijk");
        made("rows are 0 in each window", old, delta(window(source, 8, EMPTY, row(20, 116), row(7, 7)),
            window(source, 8, EMPTY, row(116, 52), row(7, 3))), "hijkhijkabcddefg");
        made("the turn begins anew in each window", old, delta(window(source, 4, EMPTY, row(20), row(7)),
            window(source, 8, EMPTY, row(20, 52), row(3, 1))), "hijkdefgefgh");
        DeltaFerry x = new DeltaFerry();
        int[] long300 = mixed(300, 3);
        fill(x, 0, long300);
        fill(x, 2, delta(window(row(1, 130, 44, 0), 8, EMPTY, row(20, 132), row(130, 14, 14))));
        due("mode 7", x.decode(), 8);
        int[] four = java.util.Arrays.copyOfRange(long300, 270, 274);
        dueFile("mode 7", x, 3, joined(four, four));
    }

    private static void addressesRefused() {
        int[] source = row(1, 8, 0);
        String old = "abcdefgh";
        made("below HERE", old, delta(window(source, 4, EMPTY, row(20), row(7))), "hhhh");
        refused("HERE", old, delta(window(source, 4, EMPTY, row(20), row(8))), BROKEN);
        made("HERE less 1", old, delta(window(source, 4, EMPTY, row(36), row(1))), "hhhh");
        refused("HERE less 0", old, delta(window(source, 4, EMPTY, row(36), row(0))), BROKEN);
        refused("below 0", old, delta(window(source, 4, EMPTY, row(36), row(9))), BROKEN);
        refused("far below 0", old, delta(window(source, 4, EMPTY, row(36), row(255, 255, 255, 127))), BROKEN);
        refused("near, not below HERE", old, delta(window(source, 8, EMPTY, row(20, 52), row(7, 5))), BROKEN);
        refused("HERE is 0", "", delta(window(row(0), 4, EMPTY, row(20), row(0))), BROKEN);
        refused("HERE is 0", "", delta(window(row(0), 4, EMPTY, row(116), row(0))), BROKEN);
        refused("no address", old, delta(window(source, 4, EMPTY, row(20), EMPTY)), BROKEN);
        refused("no address", old, delta(window(source, 4, EMPTY, row(116), EMPTY)), BROKEN);
        refused("an address that is left", old, delta(window(source, 4, EMPTY, row(20), row(1, 1))), BROKEN);
        refused("half an address", old, delta(window(source, 4, EMPTY, row(20), row(128))), BROKEN);
    }

    private static void sizesOfNothing() {
        int[] source = row(1, 8, 0);
        String old = "abcdefgh";
        made("ADD 0", "", delta(window(row(0), 1, row('a'), row(1, 0, 2, 1, 0), EMPTY)), "a");
        made("RUN 0 has its byte", "", delta(window(row(0), 1, row('z', 'a'), row(0, 0, 2), EMPTY)), "a");
        refused("RUN 0 without its byte", "", delta(window(row(0), 0, EMPTY, row(0, 0), EMPTY)), BROKEN);
        made("COPY 0 has its address", old, delta(window(source, 4, EMPTY, row(19, 0, 52), row(3, 1))), "efgh");
        refused("COPY 0 without its address", old, delta(window(source, 0, EMPTY, row(19, 0), EMPTY)), BROKEN);
        refused("COPY 0 from HERE", old, delta(window(source, 0, EMPTY, row(19, 0), row(8))), BROKEN);
    }

    private static void numbers() {
        made("a number of four bytes", "", joined(HEAD, row(0, 128, 128, 128, 7, 1, 0, 1, 1, 0, 'a', 2)), "a");
        refused("a number of five bytes", "",
            joined(HEAD, row(0, 128, 128, 128, 128, 7, 1, 0, 1, 1, 0, 'a', 2)), BROKEN);
        made("all numbers of two bytes", "",
            joined(HEAD, row(0, 128, 11, 128, 1, 0, 128, 1, 128, 1, 128, 0, 'a', 2)), "a");
        refused("a fourth byte with 128 and no more", "", joined(HEAD, row(0, 128, 128, 128, 128)), BROKEN);
        made("a size of four bytes", "",
            delta(window(row(0), 2, row('a'), row(0, 128, 128, 128, 2), EMPTY)), "aa");
        refused("a size of five bytes", "",
            delta(window(row(0), 2, row('a'), row(0, 128, 128, 128, 128, 2), EMPTY)), BROKEN);
    }

    private static void windowBytes() {
        int[] all = delta(window(row(1, 3, 0), 5, bytesOf("ab"), row(3, 19, 3), row(0)));
        made("whole", "xyz", all, "abxyz");
        for (int n = 6; n < all.length; n++) {
            refused("cut to " + n, "xyz", java.util.Arrays.copyOf(all, n), BROKEN);
        }
        refused("a byte left", "xyz", joined(all, row(0)), BROKEN);
        refused("a window of no bytes", "", joined(HEAD, row(0, 0)), BROKEN);
        refused("fewer bytes than the window has", "", joined(HEAD, row(0, 6, 1, 0, 1, 1, 0, 'a', 2)), BROKEN);
        refused("more bytes than the window has", "",
            joined(HEAD, row(0, 8, 1, 0, 1, 1, 0, 'a', 2, 2)), BROKEN);
        refused("nothing is read beyond a window", "", joined(HEAD, row(0, 4, 1, 0, 1, 1, 0, 'a', 2)), BROKEN);
        // The end is met before the size is read.
        refused("BROKEN before LARGE", "", joined(HEAD, row(0, 9, 130, 46, 0, 0, 0, 0)), BROKEN);
    }

    private static void parts() {
        int[] none = row(0);
        refused("the window is not filled", "", delta(window(none, 4, bytesOf("abc"), row(4), EMPTY)), BROKEN);
        refused("the window is too small", "", delta(window(none, 2, bytesOf("abc"), row(4), EMPTY)), BROKEN);
        refused("bytes left", "", delta(window(none, 3, bytesOf("abcd"), row(4), EMPTY)), BROKEN);
        refused("bytes missing", "", delta(window(none, 3, bytesOf("ab"), row(4), EMPTY)), BROKEN);
        refused("a run's byte missing", "", delta(window(none, 3, EMPTY, row(0, 3), EMPTY)), BROKEN);
        refused("codes left", "", delta(window(none, 3, bytesOf("abcd"), row(4, 2), EMPTY)), BROKEN);
        refused("a size missing", "", delta(window(none, 3, bytesOf("abc"), row(1), EMPTY)), BROKEN);
        refused("a run too long", "", delta(window(none, 3, bytesOf("a"), row(0, 4), EMPTY)), BROKEN);
        refused("a copy too long", "", delta(window(none, 5, bytesOf("a"), row(2, 21), row(0))), BROKEN);
        refused("a great size", "",
            delta(window(none, 3, bytesOf("abc"), row(0, 255, 255, 255, 127), EMPTY)), BROKEN);
        refused("great parts", "", joined(HEAD,
            row(0, 15, 1, 0, 255, 255, 255, 127, 255, 255, 255, 127, 255, 255, 255, 127, 2)), BROKEN);
    }

    private static void secondaries() {
        for (int second = 1; second < 256; second++) {
            refused("the byte behind the size " + second, "",
                joined(HEAD, row(0, 7, 1, second, 1, 1, 0, 'a', 2)), second % 8 != 0 ? SECOND : BROKEN);
        }
        refused("SECOND before the parts", "", joined(HEAD, row(0, 2, 1, 1)), SECOND);
        refused("LARGE before SECOND", "", joined(HEAD, row(0, 4, 130, 46, 1, 0)), LARGE);
        refused("a window before", "", delta(window(row(0), 3, EMPTY, row(4), EMPTY),
            row(0, 2, 1, 1)), BROKEN);
    }

    private static void large() {
        int[] run = row('a');
        int[] most = window(row(0), 300, run, row(0, 130, 44), EMPTY);
        made("300", "", delta(most), "a".repeat(300));
        made("300 and 0", "", delta(most, window(row(0), 0, EMPTY, EMPTY, EMPTY)), "a".repeat(300));
        refused("301", "", delta(window(row(0), 301, run, row(0, 130, 45), EMPTY)), LARGE);
        refused("300 and 1", "", delta(most, window(row(0), 1, run, row(2), EMPTY)), LARGE);
        refused("by the size alone", "", delta(window(row(0), 301, EMPTY, EMPTY, EMPTY)), LARGE);
        refused("a great size", "", delta(window(row(0), 268435455, EMPTY, EMPTY, EMPTY)), LARGE);
        refused("200 and 101", "", delta(window(row(0), 200, run, row(0, 129, 72), EMPTY),
            window(row(0), 101, run, row(0, 101), EMPTY)), LARGE);
    }

    private static int[] checkedWindow(int last) {
        return row(4, 13, 3, 0, 3, 1, 0, 2, 77, 1, last, 'a', 'b', 'c', 4);
    }

    private static void checks() {
        made("the check", "", delta(checkedWindow(39)), "abc");
        refused("another check", "", delta(checkedWindow(38)), CHECK);
        for (int i = 7; i < 11; i++) {
            int[] wrong = checkedWindow(39);
            wrong[i] ^= 128;
            refused("another check, byte " + i, "", delta(wrong), CHECK);
        }
        int[] codes = checkedWindow(38);
        codes[14] = 3;
        refused("BROKEN before CHECK", "", delta(codes), BROKEN);
        refused("CHECK before what is behind", "", delta(checkedWindow(38), row(8)), CHECK);
        refused("what is before", "", delta(row(0, 2, 1, 1), checkedWindow(38)), SECOND);
        made("with a source", "xy", delta(row(5, 2, 0), row(13, 3, 0, 3, 1, 0, 2, 77, 1, 39, 'a', 'b', 'c', 4)), "abc");
        made("each window's own", "", delta(checkedWindow(39), checkedWindow(39)), "abcabc");
        refused("half a check", "", delta(row(4, 7, 0, 0, 0, 0, 0, 0, 0)), BROKEN);
        made("the check of nothing", "", delta(row(4, 9, 0, 0, 0, 0, 0, 0, 0, 0, 1)), "");
    }

    private static void resultStays() {
        DeltaFerry x = read("made", "", delta(checkedWindow(39)), 3);
        int[][] wrong = {
            delta(checkedWindow(38)), delta(checkedWindow(39), checkedWindow(38)), delta(row(8)), row(1),
            delta(row(0, 2, 1, 1)), delta(window(row(0), 301, EMPTY, EMPTY, EMPTY)),
            row(214, 195, 196, 0, 1), row(214, 195, 196, 0, 2, 2, 9, 0)
        };
        int[] answers = {CHECK, CHECK, BROKEN, BROKEN, SECOND, LARGE, SECOND, TABLE};
        for (int i = 0; i < wrong.length; i++) {
            fill(x, 2, wrong[i]);
            due("wrong " + i, x.decode(), answers[i]);
            dueFile("wrong " + i, x, 3, 'a', 'b', 'c');
        }
        fill(x, 2, HEAD);
        due("no window", x.decode(), 0);
        dueFile("RESULT becomes empty", x, 3);
    }

    /** Each code of the table by itself, at the beginning of a window with a source. */
    private static void everyCode() {
        int[][] codes = Model.codes();
        String old = "abcdefghijklmnopqrstuvwxyz";
        for (int code = 0; code < 256; code++) {
            List<Integer> u = new ArrayList<>();
            for (int b : bytesOf(old)) {
                u.add(b);
            }
            int[] data = EMPTY;
            int[] told = row(code);
            int[] addresses = EMPTY;
            for (int k = 0; k < 2; k++) {
                int type = codes[code][k];
                int n = codes[code][2 + k];
                if (type != 0 && n == 0) {
                    n = 3;
                    told = joined(told, row(n));
                }
                int mode = codes[code][4 + k];
                // The rows are all 0: modes 2 .. 5 tell 5 as 5, modes 6 .. 8 tell 0 by any byte.
                int from = mode == 1 ? u.size() - 5 : mode >= 6 ? 0 : 5;
                for (int i = 0; i < n; i++) {
                    u.add(type == 3 ? u.get(from + i) : type == 1 ? '0' + i : '!');
                }
                int[] mine = type == 1 ? java.util.Arrays.copyOf(bytesOf("0123456789:;<=>?@"), n)
                    : type == 2 ? row('!') : EMPTY;
                data = joined(data, mine);
                addresses = joined(addresses, type == 3 ? row(5) : EMPTY);
            }
            StringBuilder result = new StringBuilder();
            for (int b : u.subList(old.length(), u.size())) {
                result.append((char) b);
            }
            made("code " + code, old,
                delta(window(row(1, 26, 0), result.length(), data, told, addresses)), result.toString());
        }
    }

    private static void tables() {
        String old = "abcdefgh";
        int[] copy = window(row(1, 8, 0), 4, EMPTY, row(20), row(2));
        made("THE TABLE", old, withTable(4, 3, tableDelta(), copy), "cdef");
        made("and no window", old, withTable(4, 3, tableDelta()), "");
        int[] three = window(row(0), 3, bytesOf("xyz"), row(20), EMPTY);
        refused("code 20 is a COPY", old, withTable(4, 3, tableDelta(), three), BROKEN);
        made("code 20 becomes ADD 3", old, withTable(4, 3, tableDelta(20, 1, 512 + 20, 3), three), "xyz");
        made("code 20 becomes RUN, size told", old, withTable(4, 3, tableDelta(20, 2, 512 + 20, 0),
            window(row(0), 5, row('q'), row(20, 5), EMPTY)), "qqqqq");
        made("code 20 becomes nothing", old, withTable(4, 3, tableDelta(20, 0),
            window(row(0), 1, row('q'), row(20, 2, 20), EMPTY)), "q");
        made("code 2 gets a second one, both sizes told", old,
            withTable(4, 3, tableDelta(2, 1, 256 + 2, 2, 512 + 2, 0, 768 + 2, 0),
            window(row(0), 5, bytesOf("abq"), row(2, 2, 3), EMPTY)), "abqqq");
        made("a second one alone", old, withTable(4, 3, tableDelta(20, 0, 256 + 20, 3, 768 + 20, 2, 1280 + 20, 1),
            window(row(1, 8, 0), 2, EMPTY, row(20), row(3))), "fg");
        made("a size of 255", old, withTable(4, 3, tableDelta(0, 2, 512, 255),
            window(row(0), 255, row('q'), row(0), EMPTY)), "q".repeat(255));
        DeltaFerry x = read("with a table", old, withTable(4, 3, tableDelta(20, 1, 512 + 20, 3), three), 3);
        fill(x, 2, delta(copy));
        due("the next delta has THE TABLE again", x.decode(), 4);
        dueFile("the next delta", x, 3, 'c', 'd', 'e', 'f');
    }

    /** A table whose types are THE TABLE's modes, so that all modes that are not named are seen to be 0. */
    private static void tableModes() {
        List<Integer> standard = Model.tableBytes(Model.codes());
        int[][] ranges = {{1024, 19}, {1024 + 163, 84}, {1280, 163}, {1280 + 247, 9}};
        for (int[] range : ranges) {
            for (int i = range[0]; i < range[0] + range[1]; i++) {
                due("the model's mode " + i, standard.get(i), 0);
            }
            int[] table = delta(window(row(1, 140, 0, 0), 1536, EMPTY,
                joined(row(19), number(range[1]), row(19), number(256 - range[1]),
                    row(19), number(1280)),
                joined(number(range[0]), number(range[1]), number(256))));
            int[] codes = new int[Math.min(range[1], 163)];
            for (int i = 0; i < codes.length; i++) {
                codes[i] = i;
            }
            made("modes that are not named", "", withTable(4, 3, table, window(row(0), 0, EMPTY, codes, EMPTY)), "");
        }
    }

    private static void tableRows() {
        String old = "abcdefghijklmnop";
        int[] source = row(1, 16, 0);
        made("NEAR 1, SAME 0: mode 2 is near", old, withTable(1, 0, tableDelta(),
            window(source, 12, EMPTY, row(20, 20, 52), row(3, 5, 1))), "defgfghighij");
        refused("NEAR 1, SAME 0: no mode 3", old, withTable(1, 0, tableDelta(),
            window(source, 4, EMPTY, row(68), row(1))), BROKEN);
        made("NEAR 0, SAME 1: mode 2 is same", old, withTable(0, 1, tableDelta(),
            window(source, 8, EMPTY, row(20, 52), row(3, 3))), "defgdefg");
        refused("NEAR 0, SAME 1: no mode 3", old, withTable(0, 1, tableDelta(),
            window(source, 4, EMPTY, row(68), row(1))), BROKEN);
        made("NEAR 0, SAME 0", old, withTable(0, 0, tableDelta(),
            window(source, 8, EMPTY, row(20, 36), row(3, 5))), "defgpdef");
        refused("NEAR 0, SAME 0: no mode 2", old, withTable(0, 0, tableDelta(),
            window(source, 4, EMPTY, row(52), row(1))), BROKEN);
        made("NEAR 8, SAME 4: mode 8 is near, 13 is same", old, withTable(8, 4, tableDelta(1024 + 20, 13),
            window(source, 8, EMPTY, row(148, 20), row(2, 9))), "cdefabcd");
        refused("NEAR 8, SAME 4: no mode 14", old, withTable(8, 4, tableDelta(1024 + 20, 14),
            window(source, 4, EMPTY, row(20), row(2))), BROKEN);
        made("a mode that there is not, not used", old, withTable(8, 4, tableDelta(1024 + 2, 255, 1024 + 20, 255),
            window(row(0), 1, row('q'), row(2), EMPTY)), "q");
        int[] tail = mixed(300, 3);
        DeltaFerry x = new DeltaFerry();
        fill(x, 0, tail);
        fill(x, 2, withTable(4, 1, tableDelta(),
            window(row(1, 130, 44, 0), 8, EMPTY, row(20, 116), row(130, 10, 10))));
        due("SAME 1: remainders by 256", x.decode(), 8);
        int[] four = java.util.Arrays.copyOfRange(tail, 266, 270);
        dueFile("SAME 1: remainders by 256", x, 3, joined(four, four));
        made("a table's delta has 4 and 3", old, withTable(0, 0, delta(window(row(1, 140, 0, 0), 1536, EMPTY,
            row(19, 132, 0, 51, 136, 0), row(0, 132, 0))), window(source, 4, EMPTY, row(20), row(1))), "bcde");
        made("a table's delta of two windows, the second from the first", old, withTable(4, 3,
            delta(window(row(1, 140, 0, 0), 1280, EMPTY, row(19, 138, 0), row(0)),
            window(row(2, 2, 0), 256, row(0), row(0, 130, 0), EMPTY)),
            window(source, 4, EMPTY, row(20), row(1))), "bcde");
    }

    private static void tablesRefused() {
        int[] copy = window(row(1, 8, 0), 4, EMPTY, row(20), row(2));
        String old = "abcdefgh";
        made("NEAR 8, SAME 4", old, withTable(8, 4, tableDelta(), copy), "cdef");
        refused("NEAR 9", old, withTable(9, 3, tableDelta(), copy), TABLE);
        refused("SAME 5", old, withTable(4, 5, tableDelta(), copy), TABLE);
        refused("a first type 4", old, withTable(4, 3, tableDelta(0, 4), copy), TABLE);
        refused("a first type 4", old, withTable(4, 3, tableDelta(255, 4), copy), TABLE);
        refused("a second type 4", old, withTable(4, 3, tableDelta(511, 4), copy), TABLE);
        made("a first size 4", old, withTable(4, 3, tableDelta(512, 4), copy), "cdef");
        refused("no bytes made", old, withTable(4, 3, HEAD, copy), TABLE);
        refused("1535 bytes made", old, withTable(4, 3,
            delta(window(row(1, 140, 0, 0), 1535, EMPTY, row(19, 139, 127), row(0))), copy), TABLE);
        refused("1537 bytes", old, withTable(4, 3,
            delta(window(row(1, 140, 0, 0), 1537, EMPTY, row(19, 140, 1), row(0))), copy), TABLE);
        refused("its fifth byte 2", old, withTable(4, 3, withTable(4, 3, tableDelta(), tableDelta()), copy), TABLE);
        int[] second = tableDelta();
        second[4] = 1;
        refused("its fifth byte 1", old, withTable(4, 3, second, copy), TABLE);
        int[] broken = tableDelta();
        broken[0] = 0;
        refused("its first byte", old, withTable(4, 3, broken, copy), TABLE);
        refused("its OLD is THE TABLE", old, withTable(4, 3,
            delta(window(row(1, 140, 1, 0), 1536, EMPTY, row(19, 140, 0), row(0))), copy), TABLE);
        refused("TABLE before what is behind", old, withTable(9, 3, tableDelta(), row(8)), TABLE);
        refused("what is behind", old, withTable(4, 3, tableDelta(), row(8)), BROKEN);
    }

    private static void tableSizes() {
        int[] head = row(214, 195, 196, 0, 2);
        refused("no size", "", head, BROKEN);
        refused("size 0", "", joined(head, row(0, 4, 3)), BROKEN);
        refused("size 1", "", joined(head, row(1, 4, 3)), BROKEN);
        refused("size 2", "", joined(head, row(2, 4, 3)), TABLE);
        refused("size 2 of 1", "", joined(head, row(2, 4)), BROKEN);
        refused("a size beyond the bytes", "", joined(head, row(3, 9, 9)), BROKEN);
        refused("a size of five bytes", "", joined(head, row(128, 128, 128, 128, 2, 4, 3)), BROKEN);
        int[] table = tableDelta();
        int[] all = withTable(4, 3, table);
        int[] less = all.clone();
        less[5]--;
        refused("a size of one less", "", less, TABLE);
        int[] more = all.clone();
        more[5]++;
        refused("a size of one more than there are", "", more, BROKEN);
        refused("a size of one more", "", joined(more, row(0)), TABLE);
    }
}
