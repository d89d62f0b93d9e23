/** Promise 15 at its edges, where a table comes with the delta: all that is allowed, and all that is TABLE or BROKEN. */
public final class TableEdgesTest extends Deltas {
    private static final String TEXT = "abcdefgh";
    private static final int[] STANDARD = bytesOf(Model.tableBytes(Model.codes()));
    private static final int[] COPY_CDEF = window(row(1, 8, 0), 4, EMPTY, row(20), row(2));
    private static final int[] FULL = mixed(300, 3);
    private static final int[] FULL_SOURCE = {1, 130, 44, 0};

    public static void main(String[] args) {
        theTable();
        theTableHasNoOtherBytes();
        sizeOfThisAll();
        sizeOfFewerThanTwo();
        sizeBeyondTheBytes();
        sizeOfLessOrMore();
        nearOfAtMostEight();
        sameOfAtMostFour();
        tableOf1536Bytes();
        typesOfAtMostThree();
        deltaOfTheTableIsRefused();
        deltaOfTheTableHasNoTable();
        sourceOfTheTable();
        rowsOfTheTablesDelta();
        secondRowGoesRound();
        sizesInTheTable();
        secondInstructions();
        modesOfTheTable();
        modesThatThereAreNot();
        firstRowOfEachSize();
        secondRowOfEachSize();
        rowsOfNone();
        tableIsForOneDelta();
        tableIsMetFirst();
        resultStays();
        finish("TableEdgesTest");
    }

    private static int[] tableOf(int kind, long check, int[] data, int[] codes, int[] addresses) {
        int[] head = joined(row(kind), part(WHOLE_TABLE, 1, 3));
        return delta(window(head, 1536, told(check), data, codes, addresses));
    }

    // "a delta ... that makes, with THE TABLE as its OLD, the table to be used".
    private static void theTable() {
        int[] all = tableOf(5, check(STANDARD), EMPTY, row(19, 140, 0), row(0));
        made("THE TABLE has this check", TEXT, withTable(4, 3, all, COPY_CDEF), "cdef");
        refused("and no other", TEXT,
            withTable(4, 3, tableOf(5, check(STANDARD) + 1, EMPTY, row(19, 140, 0), row(0)), COPY_CDEF), TABLE);
        due("1536 bytes", STANDARD.length, 1536);
        due("code 0 is RUN", STANDARD[0], RUN);
        due("code 18 is ADD 17", STANDARD[18] * 100 + STANDARD[512 + 18], 117);
        due("code 162 is COPY 18", STANDARD[162] * 100 + STANDARD[512 + 162], 318);
        due("code 162 has mode 8", STANDARD[1024 + 162], 8);
        due("code 234 has mode 5", STANDARD[1280 + 234], 5);
        due("code 246 has ADD 4 and mode 8", STANDARD[512 + 246] * 100 + STANDARD[1280 + 246], 408);
        due("code 255 has COPY 4, ADD 1", STANDARD[255] * 1000 + STANDARD[767] * 100 + STANDARD[511] * 10
            + STANDARD[1023], 3411);
        due("code 255 has mode 8", STANDARD[1279], 8);
    }

    /** Each 256 bytes by themselves, that their check tells it where one is another. */
    private static void theTableHasNoOtherBytes() {
        for (int column = 0; column < 6; column++) {
            int[] mine = part(STANDARD, 256 * column, 256);
            int[] windows = EMPTY;
            for (int i = 0; i < 6; i++) {
                int[] from = i == column ? number(256 * column) : number(0);
                int[] bytes = i == column ? mine : part(STANDARD, 0, 256);
                windows = joined(windows, window(joined(row(5), number(256), from), 256, told(check(bytes)), EMPTY,
                    row(19, 130, 0), row(0)));
            }
            read("column " + column, TEXT, withTable(4, 3, delta(windows)), 0);
        }
    }

    // "the size of this all as a number, NEAR and SAME as bytes, and a delta, to whose end it goes".
    private static void sizeOfThisAll() {
        int[] table = tableDelta();
        int n = 2 + table.length;
        int[][] sizes = {number(n), row(128, n), row(128, 128, n), row(128, 128, 128, n)};
        for (int[] size : sizes) {
            made("a size of " + size.length + " bytes", TEXT,
                joined(TABLE_HEAD, size, row(4, 3), table, COPY_CDEF), "cdef");
        }
        refused("a size of five bytes", TEXT,
            joined(TABLE_HEAD, row(128, 128, 128, 128, n), row(4, 3), table, COPY_CDEF), BROKEN);
        for (int k = 0; k < 4; k++) {
            refused("a size that is cut", TEXT, joined(TABLE_HEAD, times(k, 128)), BROKEN);
        }
        made("a table, and no window", TEXT, withTable(4, 3, table), "");
    }

    // "nor be of fewer than two".
    private static void sizeOfFewerThanTwo() {
        for (int size = 0; size < 2; size++) {
            refused("a size of " + size, TEXT, joined(TABLE_HEAD, row(size)), BROKEN);
            refused("a size of " + size, TEXT, joined(TABLE_HEAD, row(size, 4)), BROKEN);
            refused("a size of " + size, TEXT, joined(TABLE_HEAD, row(size, 4, 3), tableDelta(), COPY_CDEF), BROKEN);
            refused("a size of " + size, TEXT, joined(TABLE_HEAD, row(size, 9, 5), tableDelta(), COPY_CDEF), BROKEN);
        }
        for (int size = 2; size < 2 + HEAD.length; size++) {
            refused("a size of " + size, TEXT, joined(TABLE_HEAD, row(size, 4, 3), tableDelta(), COPY_CDEF), TABLE);
        }
    }

    // "which must not be beyond the bytes that there are".
    private static void sizeBeyondTheBytes() {
        int[] table = tableDelta();
        int[] all = withTable(4, 3, table);
        for (int n = TABLE_HEAD.length; n < all.length; n++) {
            refused("cut behind " + n, TEXT, part(all, 0, n), BROKEN);
        }
        for (int more : row(1, 2, 50)) {
            int[] longer = all.clone();
            longer[5] += more;
            refused(more + " more than there are", TEXT, longer, BROKEN);
        }
        refused("the greatest size", TEXT, joined(TABLE_HEAD, row(255, 255, 255, 127, 4, 3), table), BROKEN);
        refused("it is met before NEAR", TEXT, joined(TABLE_HEAD, row(3, 9, 5)), BROKEN);
    }

    // "nothing is read beyond the end ... of a table's delta"; bytes left in it are BROKEN there: TABLE.
    private static void sizeOfLessOrMore() {
        int[] table = tableDelta();
        for (int less = 1; less <= table.length; less++) {
            int[] all = joined(TABLE_HEAD, number(2 + table.length - less), row(4, 3), table, COPY_CDEF);
            refused(less + " less", TEXT, all, TABLE);
        }
        for (int more = 1; more < COPY_CDEF.length; more++) {
            int[] all = joined(TABLE_HEAD, number(2 + table.length + more), row(4, 3), table, COPY_CDEF);
            refused(more + " more", TEXT, all, TABLE);
        }
        refused("a byte 0 is left", TEXT, withTable(4, 3, joined(table, row(0)), COPY_CDEF), TABLE);
    }

    // "TABLE, if NEAR is above 8".
    private static void nearOfAtMostEight() {
        for (int near : row(0, 1, 7, 8)) {
            made("NEAR " + near, TEXT, withTable(near, 3, tableDelta(), COPY_CDEF), "cdef");
        }
        for (int near : row(9, 10, 16, 128, 255)) {
            refused("NEAR " + near, TEXT, withTable(near, 3, tableDelta(), COPY_CDEF), TABLE);
            refused("NEAR " + near, TEXT, joined(TABLE_HEAD, row(2, near, 3)), TABLE);
        }
    }

    // "or SAME above 4".
    private static void sameOfAtMostFour() {
        for (int same : row(0, 1, 3, 4)) {
            made("SAME " + same, TEXT, withTable(4, same, tableDelta(), COPY_CDEF), "cdef");
        }
        for (int same : row(5, 6, 8, 128, 255)) {
            refused("SAME " + same, TEXT, withTable(4, same, tableDelta(), COPY_CDEF), TABLE);
        }
        made("both of the most", TEXT, withTable(8, 4, tableDelta(), COPY_CDEF), "cdef");
        made("both of none", TEXT, withTable(0, 0, tableDelta(), COPY_CDEF), "cdef");
    }

    // "the table made has not 1536 bytes"; "LARGE, ... (the table: than 1536) by a window's size", which is TABLE then.
    private static void tableOf1536Bytes() {
        for (int n : row(0, 1, 512, 1024, 1535)) {
            refused("a table of " + n, TEXT, withTable(4, 3, delta(tableWindow(n)), COPY_CDEF), TABLE);
        }
        refused("a table of no window", TEXT, withTable(4, 3, HEAD, COPY_CDEF), TABLE);
        int[] byte0 = addition(0);
        made("a table of 1536, and a window of nothing", TEXT,
            withTable(4, 3, delta(tableWindow(1536), row(0, 5, 0, 0, 0, 0, 0)), COPY_CDEF), "cdef");
        made("a table of 1535 and 1", TEXT, withTable(4, 3, delta(tableWindow(1535), byte0), COPY_CDEF), "cdef");
        refused("a table of 1536 and 1", TEXT, withTable(4, 3, delta(tableWindow(1536), byte0), COPY_CDEF), TABLE);
        refused("a table of 1537", TEXT, withTable(4, 3,
            delta(window(WHOLE_TABLE, 1537, EMPTY, row(19, 140, 1), row(0))), COPY_CDEF), TABLE);
        refused("a table of the greatest size", TEXT, withTable(4, 3,
            delta(window(WHOLE_TABLE, 268435455, EMPTY, EMPTY, EMPTY)), COPY_CDEF), TABLE);
    }

    // "or a type above 3".
    private static void typesOfAtMostThree() {
        for (int place : row(0, 1, 127, 128, 254, 255, 256, 257, 383, 510, 511)) {
            made("type 3 at " + place, TEXT, withTable(4, 3, tableDelta(place, 3), COPY_CDEF), "cdef");
            for (int type : row(4, 5, 128, 255)) {
                refused("type " + type + " at " + place, TEXT, withTable(4, 3, tableDelta(place, type), COPY_CDEF), TABLE);
            }
        }
        for (int place : row(512, 513, 767, 768, 1023, 1024, 1279, 1280, 1535)) {
            made("no type at " + place, TEXT, withTable(4, 3, tableDelta(place, 255), COPY_CDEF), "cdef");
        }
    }

    // "TABLE, if ... its delta is refused".
    private static void deltaOfTheTableIsRefused() {
        for (int i = 0; i < 5; i++) {
            for (int b : row(0, 1, 2, 3, 4, 128, 255)) {
                int[] wrong = tableDelta();
                if (wrong[i] != b) {
                    wrong[i] = b;
                    refused("its byte " + i + " is " + b, TEXT, withTable(4, 3, wrong, COPY_CDEF), TABLE);
                }
            }
        }
        int[] broken = row(8);
        int[] second = row(0, 2, 0, 1);
        int[] large = row(0, 3, 140, 1, 0);
        int[] check = window(row(4), 0, row(0, 0, 0, 0), EMPTY, EMPTY, EMPTY);
        int[][] wrong = {broken, second, large, check};
        for (int[] window : wrong) {
            refused("its first window", TEXT, withTable(4, 3, delta(window, tableWindow(1536)), COPY_CDEF), TABLE);
            refused("its last window", TEXT, withTable(4, 3, delta(tableWindow(1536), window), COPY_CDEF), TABLE);
        }
        refused("a code too many", TEXT, withTable(4, 3,
            delta(window(WHOLE_TABLE, 1536, row(0), row(19, 140, 0, 2), row(0))), COPY_CDEF), TABLE);
        refused("an address too many", TEXT, withTable(4, 3,
            delta(window(WHOLE_TABLE, 1536, EMPTY, row(19, 140, 0), row(0, 0))), COPY_CDEF), TABLE);
    }

    // "with 0 as its fifth byte".
    private static void deltaOfTheTableHasNoTable() {
        int[] inner = withTable(4, 3, tableDelta(), tableWindow(1536));
        refused("a table in a table", TEXT, withTable(4, 3, inner, COPY_CDEF), TABLE);
        int[] wrong = tableDelta();
        wrong[4] = 2;
        refused("a fifth byte 2 alone", TEXT, withTable(4, 3, wrong, COPY_CDEF), TABLE);
    }

    // "with THE TABLE as its OLD"; "2 instead of 1" is of the table as far as there is one.
    private static void sourceOfTheTable() {
        int[] all = row(19, 140, 0);
        made("all of THE TABLE", TEXT,
            withTable(4, 3, delta(window(WHOLE_TABLE, 1536, EMPTY, all, row(0))), COPY_CDEF), "cdef");
        refused("one byte more", TEXT,
            withTable(4, 3, delta(window(row(1, 140, 1, 0), 1536, EMPTY, all, row(0))), COPY_CDEF), TABLE);
        refused("one place more", TEXT,
            withTable(4, 3, delta(window(row(1, 140, 0, 1), 1536, EMPTY, all, row(0))), COPY_CDEF), TABLE);
        made("its last byte", TEXT, withTable(4, 3, delta(tableWindow(1535),
            window(row(1, 1, 139, 127), 1, EMPTY, row(19, 1), row(0))), COPY_CDEF), "cdef");
        made("the table as far as there is one", TEXT, withTable(4, 3, delta(tableWindow(1280),
            window(row(2, 130, 0, 136, 0), 256, EMPTY, row(19, 130, 0), row(0))), COPY_CDEF), "cdef");
        refused("and no further", TEXT, withTable(4, 3, delta(tableWindow(1280),
            window(row(2, 130, 0, 136, 1), 256, EMPTY, row(19, 130, 0), row(0))), COPY_CDEF), TABLE);
    }

    /** The types are copied at once, some addresses told, one told by a mode, and the rest copied as it is. */
    private static int[] tableWithAddress(int[] before, int mode, int told, int meant) {
        int[] codes = row(19, 132, 0);
        int[] addresses = row(0);
        int[] bytes = part(STANDARD, 0, 512);
        for (int address : before) {
            codes = joined(codes, row(20));
            addresses = joined(addresses, number(address));
            bytes = joined(bytes, part(STANDARD, address, 4));
        }
        codes = joined(codes, row(20 + 16 * mode));
        addresses = joined(addresses, row(told));
        bytes = joined(bytes, part(STANDARD, meant, 4));
        int place = bytes.length;
        codes = joined(codes, row(19), number(1536 - place));
        addresses = joined(addresses, number(place));
        bytes = joined(bytes, part(STANDARD, place, 1536 - place));
        return delta(window(joined(row(5), part(WHOLE_TABLE, 1, 3)), 1536, told(check(bytes)), EMPTY, codes, addresses));
    }

    private static void dueAddress(String what, int[] before, int mode, int told, int meant) {
        int[] table = tableWithAddress(before, mode, told, meant);
        for (int[] pair : new int[][] {{0, 0}, {4, 3}, {8, 4}, {8, 0}, {0, 4}}) {
            made(what, TEXT, withTable(pair[0], pair[1], table), "");
        }
    }

    // "(SAME and NEAR of this delta being 3 and 4)", whatever is told for the delta behind it.
    private static void rowsOfTheTablesDelta() {
        int[] before = {16, 36, 56, 80};
        dueAddress("mode 2", before, 2, 3, 83);
        dueAddress("mode 3", before, 3, 3, 19);
        dueAddress("mode 4", before, 4, 3, 39);
        dueAddress("mode 5", before, 5, 3, 59);
        dueAddress("mode 6", row(160), 6, 160, 160);
        dueAddress("mode 7", row(412), 7, 412 - 256, 412);
        dueAddress("mode 8", row(699), 8, 699 - 512, 699);
    }

    // "that with its remainder by 256 SAME as number in the second one": from 768 on, numbers come round.
    private static void secondRowGoesRound() {
        dueAddress("767", row(767), 8, 255, 767);
        dueAddress("768", row(768), 6, 0, 768);
        dueAddress("0, and no 768", row(300), 6, 0, 0);
        dueAddress("929", row(929), 6, 929 - 768, 929);
        dueAddress("161 and 929", row(161, 929), 6, 161, 929);
        dueAddress("929 and 161", row(929, 161), 6, 161, 161);
        dueAddress("1180", row(1180), 7, 1180 - 1024, 1180);
        dueAddress("1532", row(1532), 8, 1532 - 1280, 1532);
    }

    // "a SIZE (0: it is told behind the code, as a number)".
    private static void sizesInTheTable() {
        for (int n : row(1, 2, 17, 18, 127, 128, 254, 255)) {
            made("RUN " + n, EMPTY, withTable(4, 3, tableDelta(512, n),
                window(row(0), n, row(7), row(0), EMPTY)), times(n, 7));
            made("ADD " + n, EMPTY, withTable(4, 3, tableDelta(512 + 18, n),
                window(row(0), n, mixed(n, 5), row(18), EMPTY)), mixed(n, 5));
            made("COPY " + n, FULL, withTable(4, 3, tableDelta(512 + 20, n),
                window(FULL_SOURCE, n, EMPTY, row(20), row(9))), part(FULL, 9, n));
            refused("RUN " + n + " of one less", EMPTY, withTable(4, 3, tableDelta(512, n),
                window(row(0), n - 1, row(7), row(0), EMPTY)), BROKEN);
        }
        for (int n : row(1, 127, 128, 300)) {
            made("ADD, told " + n, EMPTY, withTable(4, 3, tableDelta(512 + 18, 0),
                window(row(0), n, mixed(n, 5), joined(row(18), number(n)), EMPTY)), mixed(n, 5));
            made("COPY, told " + n, FULL, withTable(4, 3, tableDelta(512 + 20, 0),
                window(FULL_SOURCE, n, EMPTY, joined(row(20), number(n)), row(0))), part(FULL, 0, n));
        }
    }

    // "THE CODES 0 .. 255 have two instructions each"; type NONE has nothing told.
    private static void secondInstructions() {
        made("both are NONE", TEXT, withTable(4, 3, tableDelta(18, 0),
            window(row(0), 1, row('a'), row(18, 2, 18), EMPTY)), "a");
        made("both are NONE, and have no size", TEXT, withTable(4, 3, tableDelta(18, 0, 512 + 18, 0),
            window(row(0), 1, row('a'), row(18, 2, 18), EMPTY)), "a");
        made("the first is NONE", TEXT, withTable(4, 3, tableDelta(18, 0, 256 + 18, 1, 768 + 18, 2),
            window(row(0), 2, bytesOf("ab"), row(18), EMPTY)), "ab");
        made("the second is NONE, and has a size and a mode", TEXT,
            withTable(4, 3, tableDelta(768 + 2, 9, 1280 + 2, 9), window(row(0), 1, row('a'), row(2), EMPTY)), "a");
        made("both are told", TEXT, withTable(4, 3, tableDelta(18, 1, 256 + 18, 2, 512 + 18, 0),
            window(row(0), 5, bytesOf("abc"), row(18, 2, 3), EMPTY)), "abccc");
        made("the second is told", TEXT, withTable(4, 3, tableDelta(2, 1, 256 + 2, 3, 512 + 2, 1, 1280 + 2, 1),
            window(row(1, 8, 0), 3, row('x'), row(2, 2), row(9))), "xab");
        made("two COPYs", TEXT, withTable(4, 3, tableDelta(256 + 20, 3, 768 + 20, 2, 1280 + 20, 6),
            window(row(1, 8, 0), 6, EMPTY, row(20), row(3, 3))), "defgde");
        refused("the second's size is missing", TEXT, withTable(4, 3, tableDelta(256 + 2, 1),
            window(row(0), 1, row('a'), row(2), EMPTY)), BROKEN);
        refused("the second's address is missing", TEXT, withTable(4, 3, tableDelta(256 + 20, 3, 768 + 20, 2),
            window(row(1, 8, 0), 6, EMPTY, row(20), row(3))), BROKEN);
        refused("the second is too long", TEXT, withTable(4, 3, tableDelta(256 + 2, 1, 768 + 2, 2),
            window(row(0), 2, bytesOf("abc"), row(2), EMPTY)), BROKEN);
    }

    // Modes of the first and of the second instruction; those of others than COPY mean nothing.
    private static void modesOfTheTable() {
        made("the first one's", TEXT, withTable(4, 3, tableDelta(1024 + 20, 1),
            window(row(1, 8, 0), 4, EMPTY, row(20), row(6))), "cdef");
        made("the second one's", TEXT, withTable(4, 3, tableDelta(1280 + 163, 1),
            window(row(1, 8, 0), 5, row('x'), row(163), row(6))), "xdefg");
        made("an ADD's", TEXT, withTable(0, 0, tableDelta(1024 + 2, 255),
            window(row(0), 1, row('a'), row(2), EMPTY)), "a");
        made("a RUN's", TEXT, withTable(0, 0, tableDelta(1024, 255),
            window(row(0), 3, row('a'), row(0, 3), EMPTY)), "aaa");
        made("a COPY's that is not met", TEXT, withTable(4, 3, tableDelta(1024 + 21, 255), COPY_CDEF), "cdef");
    }

    // "a mode that there is not".
    private static void modesThatThereAreNot() {
        for (int near = 0; near <= 8; near++) {
            for (int same = 0; same <= 4; same++) {
                int last = 1 + near + same;
                int[] window = window(row(1, 8, 0), 4, EMPTY, row(20), row(6));
                if (same == 0 && near > 0) {
                    window = COPY_CDEF;
                }
                made("the last mode of " + near + " and " + same, TEXT,
                    withTable(near, same, tableDelta(1024 + 20, last), window), same > 0 ? "abcd" : "cdef");
                for (int more : row(1, 2, 255 - last)) {
                    refused("no mode of " + near + " and " + same, TEXT,
                        withTable(near, same, tableDelta(1024 + 20, last + more), window), BROKEN);
                }
            }
        }
        for (int same = 1; same <= 4; same++) {
            for (int x : row(0, 127, 128, 255)) {
                made("the last of the second row", TEXT, withTable(8, same, tableDelta(1024 + 20, 9 + same),
                    window(row(1, 8, 0), 4, EMPTY, row(20), row(x))), "abcd");
            }
        }
        refused("a second one's mode that there is not", TEXT, withTable(4, 3, tableDelta(1280 + 163, 9),
            window(row(1, 8, 0), 5, row('x'), row(163), row(0))), BROKEN);
    }

    // "a row of NEAR addresses ... (0, 1, .., and round again)".
    private static void firstRowOfEachSize() {
        for (int near = 1; near <= 8; near++) {
            for (int k = 0; k < near; k++) {
                int[] codes = EMPTY;
                int[] addresses = EMPTY;
                int[] result = EMPTY;
                int slot = 0;
                for (int i = 0; i < near + 2; i++) {
                    int address = 11 + 13 * i;
                    codes = joined(codes, row(19, 4));
                    addresses = joined(addresses, number(address));
                    result = joined(result, part(FULL, address, 4));
                    slot = i % near == k ? address : slot;
                }
                result = joined(result, part(FULL, slot + 5, 4));
                made("address " + k + " of " + near, FULL, withTable(near, 0, tableDelta(1024 + 20, 2 + k),
                    window(FULL_SOURCE, result.length, EMPTY, joined(codes, row(20)), joined(addresses, row(5)))), result);
            }
        }
    }

    private static void dueAgain(int near, int same, int[] addresses, int number, int meant) {
        int[] u = joined(FULL, part(FULL, 0, 220));
        int[] codes = row(19, 129, 92);
        int[] told = row(0);
        for (int address : addresses) {
            codes = joined(codes, row(19, 4));
            told = joined(told, number(address));
            u = joined(u, part(u, address, 4));
        }
        u = joined(u, part(u, meant, 4));
        int size = u.length - 300;
        made("address " + meant + " with NEAR " + near + " and SAME " + same, FULL,
            withTable(near, same, tableDelta(1024 + 20, 2 + near + number / 256),
            window(FULL_SOURCE, size, EMPTY, joined(codes, row(20)), joined(told, row(number % 256)))), part(u, 300, size));
    }

    // "address number 256 (mode - 2 - NEAR) + x of a row of 256 SAME addresses"; "its remainder by 256 SAME".
    private static void secondRowOfEachSize() {
        for (int near : row(0, 1, 4, 8)) {
            for (int same = 1; same <= 4; same++) {
                for (int address : row(1, 127, 128, 255, 256, 257, 296, 511, 512, 514)) {
                    dueAgain(near, same, row(address), address % (256 * same), address);
                }
            }
        }
        dueAgain(4, 1, row(10, 266), 10, 266);
        dueAgain(4, 1, row(266, 10), 10, 10);
        dueAgain(4, 2, row(10, 266), 10, 10);
        dueAgain(4, 2, row(10, 266), 266, 266);
        dueAgain(4, 2, row(2, 514), 2, 514);
        dueAgain(4, 2, row(514, 2), 2, 2);
        dueAgain(4, 3, row(2, 514), 2, 2);
        dueAgain(4, 4, row(2, 514), 2, 2);
    }

    // "(when the rows have any)".
    private static void rowsOfNone() {
        int[] three = window(row(1, 8, 0), 12, EMPTY, row(20, 36, 20), row(4, 12, 1));
        for (int[] pair : new int[][] {{0, 0}, {0, 4}, {8, 0}, {0, 1}, {1, 0}}) {
            made("rows of " + pair[0] + " and " + pair[1], TEXT,
                withTable(pair[0], pair[1], tableDelta(), three), "efghabcdbcde");
        }
        made("mode 2 is of the second row", TEXT, withTable(0, 1, tableDelta(),
            window(row(1, 8, 0), 8, EMPTY, row(20, 52), row(4, 4))), "efghefgh");
        made("mode 2 is the address before", TEXT, withTable(1, 0, tableDelta(),
            window(row(1, 8, 0), 16, EMPTY, row(20, 52, 52, 52), row(0, 1, 1, 1))), "abcdbcdecdefdefg");
    }

    private static void tableIsForOneDelta() {
        int[] other = withTable(0, 1, tableDelta(20, 1), addition("abc"));
        int[] wrong = withTable(0, 1, tableDelta(20, 1), row(8));
        int[] noTable = withTable(0, 1, tableDelta(20, 4), addition("abc"));
        for (int[] first : new int[][] {other, wrong, noTable, withTable(9, 5, tableDelta())}) {
            DeltaFerry x = new DeltaFerry();
            fill(x, 0, TEXT);
            fill(x, 2, first);
            x.decode();
            fill(x, 2, delta(window(row(1, 8, 0), 12, EMPTY, row(20, 100, 148), row(2, 1, 0))));
            due("THE TABLE, 4 and 3 again", x.decode(), 12);
            dueFile("THE TABLE, 4 and 3 again", x, 3, bytesOf("cdefbcdeabcd"));
        }
    }

    // "as soon as it is met".
    private static void tableIsMetFirst() {
        for (int[] behind : new int[][] {row(8), row(0, 2, 0, 1), row(0, 2, 130, 45), row(0)}) {
            refused("TABLE is met first", TEXT, withTable(9, 3, tableDelta(), behind), TABLE);
            refused("TABLE is met first", TEXT, withTable(4, 3, tableDelta(0, 4), behind), TABLE);
        }
        refused("a window behind a table", TEXT, withTable(4, 3, tableDelta(), row(8)), BROKEN);
        refused("a window behind a table", TEXT, withTable(4, 3, tableDelta(), row(0, 2, 0, 1)), SECOND);
        refused("a window behind a table", TEXT, withTable(4, 3, tableDelta(), row(0, 2, 130, 45)), LARGE);
        refused("a window behind a table", TEXT, withTable(4, 3, tableDelta(),
            window(row(4), 0, row(0, 0, 0, 0), EMPTY, EMPTY, EMPTY)), CHECK);
        int[] wrong = withTable(4, 3, tableDelta(), COPY_CDEF);
        wrong[4] = 3;
        refused("the fifth byte is 3", TEXT, wrong, SECOND);
    }

    private static void resultStays() {
        DeltaFerry x = new DeltaFerry();
        giveResult(x, bytesOf("result"));
        for (int[] table : new int[][] {HEAD, EMPTY, tableDelta(0, 4), delta(tableWindow(1535))}) {
            fill(x, 2, withTable(4, 3, table, addition("abc")));
            due("TABLE", x.decode(), TABLE);
            dueFile("the RESULT stays", x, 3, bytesOf("result"));
        }
        fill(x, 2, withTable(4, 3, tableDelta()));
        due("a table, and no window", x.decode(), 0);
        dueFile("the RESULT becomes empty", x, 3);
    }
}
