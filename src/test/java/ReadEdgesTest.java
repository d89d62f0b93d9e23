/** Promise 15 at its edges: all that "READING DELTA" allows and refuses, but for tables (TableEdgesTest). */
public final class ReadEdgesTest extends Deltas {
    private static final String TEXT = "abcdefgh";
    private static final int[] GREATEST = {255, 255, 255, 127};

    public static void main(String[] args) {
        firstFourBytes();
        fifthByte();
        deltaOfNoWindow();
        windowByte();
        windowByteOfOtherBits();
        sourceOfOld();
        sourceOfTheResult();
        sourceOfAnOlderResult();
        sourceThatIsEmpty();
        numbersOfFourBytes();
        numbersWithAFifthByte();
        numbersThatAreCut();
        greatestNumbers();
        bytesThatAreMissing();
        bytesThatAreLeft();
        nothingIsReadBeyondAWindow();
        windowBeyondTheBytes();
        resultOfAtMost300();
        largeByTheSizeAlone();
        byteBehindTheSize();
        partsThatDoNotFillTheBytes();
        partsThatDoNotFillTheSize();
        partsThatAreNotUsedUp();
        partsThatAreTooShort();
        windowsOfAnySize();
        checkOfAWindow();
        checkThatIsCut();
        addressBelowHere();
        addressLessThanHere();
        addressOfTheFirstRow();
        addressOfTheSecondRow();
        firstRowGoesRound();
        rowsAreEmptyInEachWindow();
        copyOverTheSourcesEnd();
        whatIsMetFirst();
        resultStays();
        decodeChangesOnlyTheResult();
        resultIsMadeAnew();
        finish("ReadEdgesTest");
    }

    /** The fields of a window that makes "xyzzzcdef" of TEXT, each of which can be told otherwise. */
    private static final class Fields {
        int kind = 1;
        int[] sourceSize = row(8);
        int[] sourcePlace = row(0);
        int[] count = null;
        int[] size = row(9);
        int[] second = row(0);
        int[] dataSize = null;
        int[] codesSize = null;
        int[] addressesSize = null;
        int[] check = EMPTY;
        int[] data = bytesOf("xyz");
        int[] codes = row(3, 0, 3, 20);
        int[] addresses = row(2);

        private static int[] sizeOf(int[] told, int[] part) {
            return told == null ? number(part.length) : told;
        }

        int[] body() {
            return joined(size, second, sizeOf(dataSize, data), sizeOf(codesSize, codes),
                sizeOf(addressesSize, addresses), check, data, codes, addresses);
        }

        int[] bytes() {
            int[] source = kind % 4 == 0 ? EMPTY : joined(sourceSize, sourcePlace);
            return joined(row(kind), source, sizeOf(count, body()), body());
        }
    }

    private static void dueFields(String what, Fields f, int answer) {
        if (answer < 0) {
            refused(what, TEXT, delta(f.bytes()), answer);
        } else {
            made(what, TEXT, delta(f.bytes()), "xyzzzcdef");
        }
    }

    // "214 195 196 0": from its first byte on.
    private static void firstFourBytes() {
        for (int n = 0; n < 5; n++) {
            refused(n + " bytes", "", part(HEAD, 0, n), BROKEN);
        }
        for (int i = 0; i < 4; i++) {
            for (int b : row(HEAD[i] + 1, HEAD[i] ^ 128, 255, HEAD[i] == 0 ? 1 : 0)) {
                int[] wrong = delta(addition("abc"));
                wrong[i] = b & 255;
                refused("byte " + i + " is " + b, "", wrong, BROKEN);
            }
        }
        refused("a byte before", "", joined(row(0), HEAD), BROKEN);
    }

    // "SECOND, if the fifth byte has the bit 1"; "BROKEN for all else: ... other bits".
    private static void fifthByte() {
        for (int fifth = 1; fifth < 256; fifth++) {
            int[] wrong = delta(addition("abc"));
            wrong[4] = fifth;
            if (fifth != 2) {
                refused("fifth byte " + fifth, "", wrong, fifth % 2 == 1 ? SECOND : BROKEN);
                refused("fifth byte " + fifth, "", part(wrong, 0, 5), fifth % 2 == 1 ? SECOND : BROKEN);
            }
        }
        refused("fifth byte 2 and no more", "", TABLE_HEAD, BROKEN);
    }

    private static void deltaOfNoWindow() {
        DeltaFerry x = with("abc", "abc");
        giveResult(x, bytesOf("result"));
        fill(x, 2, HEAD);
        due("a delta of no window", x.decode(), 0);
        dueFile("a delta of no window", x, 3);
    }

    // "a byte, 1 ..., and 4 more when checked"; "2 instead of 1".
    private static void windowByte() {
        for (int kind : row(0, 1, 2, 4, 5, 6)) {
            made("a window's byte " + kind, TEXT,
                delta(addition(TEXT), windowOf(kind, kind % 4 != 0, kind >= 4)), TEXT + "xyzzzcdef");
        }
    }

    // Refused: "other bits, both 1 and 2 for a window", though OLD and the RESULT have such a source.
    private static void windowByteOfOtherBits() {
        for (int kind = 0; kind < 256; kind++) {
            for (int way = 0; way < 4 && (kind > 7 || kind % 4 == 3); way++) {
                refused("a window's byte " + kind, TEXT,
                    delta(addition(TEXT), windowOf(kind, way % 2 == 0, way >= 2)), BROKEN);
            }
        }
    }

    private static int[] windowOf(int kind, boolean withSource, boolean checked) {
        int[] check = checked ? told(check(bytesOf("xyzzzcdef"))) : EMPTY;
        return withSource ? window(row(kind, 8, 0), 9, check, bytesOf("xyz"), row(3, 0, 3, 20), row(2))
            : window(row(kind), 9, check, bytesOf("xyzzzcdef"), row(10), EMPTY);
    }

    // "as many bytes as the first number says, from the place that the second number says ... (with 1: of OLD)".
    private static void sourceOfOld() {
        for (int place = 0; place <= 10; place++) {
            for (int size = 0; size <= 10; size++) {
                int[] kind = row(1, size, place);
                if (place + size > 8) {
                    refused("a source that is not there", TEXT, delta(window(kind, 0, EMPTY, EMPTY, EMPTY)), BROKEN);
                } else if (size == 0) {
                    made("a source of nothing", TEXT, delta(window(kind, 0, EMPTY, EMPTY, EMPTY)), "");
                } else {
                    String last = TEXT.substring(place + size - 1, place + size);
                    made("a source", TEXT, delta(window(kind, 2, EMPTY, row(19, 1, 19, 1), row(0, size - 1))),
                        TEXT.substring(place, place + 1) + last);
                }
            }
        }
        int[] old = mixed(300, 1);
        made("all of OLD", old, delta(window(row(1, 130, 44, 0), 1, EMPTY, row(19, 1), number(299))), part(old, 299, 1));
        refused("one more", old, delta(window(row(1, 130, 45, 0), 1, EMPTY, row(19, 1), number(299))), BROKEN);
        refused("one more", old, delta(window(row(1, 130, 44, 1), 1, EMPTY, row(19, 1), number(299))), BROKEN);
    }

    // "2 instead of 1: its source are ... of the RESULT as far as there is one".
    private static void sourceOfTheResult() {
        int[] first = addition("uvwxyz");
        for (int place = 0; place <= 8; place++) {
            for (int size = 1; size <= 8; size++) {
                int[] all = delta(first, window(row(2, size, place), 1, EMPTY, row(19, 1), row(size - 1)));
                if (place + size > 6) {
                    refused("a RESULT that is not there", "abcdefghijkl", all, BROKEN);
                } else {
                    made("of the RESULT", "abcdefghijkl", all,
                        "uvwxyz" + "uvwxyz".substring(place + size - 1, place + size));
                }
            }
        }
        made("of what three windows made", "", delta(addition("a"), addition("b"), addition("c"),
            window(row(2, 3, 0), 3, EMPTY, row(19, 3), row(0))), "abcabc");
        refused("the window itself is not there yet", "", delta(first, window(row(2, 7, 0), 1, row('a'), row(2), EMPTY)), BROKEN);
    }

    private static void sourceOfAnOlderResult() {
        DeltaFerry x = new DeltaFerry();
        giveResult(x, bytesOf("uvwxyz"));
        fill(x, 2, delta(window(row(2, 1, 0), 1, EMPTY, row(19, 1), row(0))));
        due("an older RESULT is no source", x.decode(), BROKEN);
        dueFile("it stays", x, 3, bytesOf("uvwxyz"));
        fill(x, 2, delta(addition("ab"), window(row(2, 3, 0), 1, EMPTY, row(19, 1), row(0))));
        due("an older RESULT is no source", x.decode(), BROKEN);
        fill(x, 2, delta(addition("ab"), window(row(2, 2, 0), 1, EMPTY, row(19, 1), row(0))));
        due("the RESULT as far as there is one", x.decode(), 3);
        dueFile("the RESULT as far as there is one", x, 3, bytesOf("aba"));
    }

    private static void sourceThatIsEmpty() {
        made("of an empty OLD", "", delta(window(row(1, 0, 0), 1, row('a'), row(2), EMPTY)), "a");
        made("of an empty RESULT", "", delta(window(row(2, 0, 0), 1, row('a'), row(2), EMPTY)), "a");
        refused("one byte of an empty OLD", "", delta(window(row(1, 1, 0), 1, row('a'), row(2), EMPTY)), BROKEN);
        refused("one byte of an empty RESULT", TEXT, delta(window(row(2, 1, 0), 1, row('a'), row(2), EMPTY)), BROKEN);
        refused("an address in it", "", delta(window(row(1, 0, 0), 1, EMPTY, row(19, 1), row(0))), BROKEN);
        // A source is its own window's alone.
        int[] first = window(row(1, 8, 0), 4, EMPTY, row(20), row(4));
        made("no source behind one", TEXT, delta(first, window(row(0), 6, bytesOf("xy"), row(3, 20), row(0))), "efghxyxyxy");
        refused("no source behind one", TEXT, delta(first, window(row(0), 4, EMPTY, row(20), row(0))), BROKEN);
        refused("no source behind one", TEXT, delta(first, window(row(0), 6, bytesOf("xy"), row(3, 20), row(2))), BROKEN);
    }

    /** The fields with one number, told by other bytes; which of nine numbers it is. */
    private static Fields withNumber(int which, int[] bytes) {
        Fields f = new Fields();
        switch (which) {
            case 0: f.sourceSize = bytes; break;
            case 1: f.sourcePlace = bytes; break;
            case 2: f.count = bytes; break;
            case 3: f.size = bytes; break;
            case 4: f.dataSize = bytes; break;
            case 5: f.codesSize = bytes; break;
            case 6: f.addressesSize = bytes; break;
            case 7: f.codes = joined(row(3, 0), bytes, row(20)); break;
            default: f.addresses = bytes; break;
        }
        return f;
    }

    private static final int[] NUMBERS = {8, 0, 13, 9, 3, 4, 1, 3, 2};

    // "A NUMBER is told by one to four bytes: seven bits each, the highest first".
    private static void numbersOfFourBytes() {
        for (int which = 0; which < 9; which++) {
            int value = NUMBERS[which];
            dueFields("a number of one byte, " + which, withNumber(which, row(value)), 9);
            dueFields("a number of two bytes, " + which, withNumber(which, row(128, value)), 9);
            dueFields("a number of three bytes, " + which, withNumber(which, row(128, 128, value)), 9);
            dueFields("a number of four bytes, " + which, withNumber(which, row(128, 128, 128, value)), 9);
        }
    }

    // "a number whose fourth byte has 128".
    private static void numbersWithAFifthByte() {
        for (int which = 0; which < 9; which++) {
            int value = NUMBERS[which];
            dueFields("a number of five bytes, " + which, withNumber(which, row(128, 128, 128, 128, value)), BROKEN);
            dueFields("a fourth byte with 128, " + which, withNumber(which, row(128, 128, 128, 128 + value)), BROKEN);
            dueFields("a fourth byte 255, " + which, withNumber(which, row(255, 255, 255, 255)), BROKEN);
        }
        // All would fit if such a number were one less than 0.
        int[] zeros = row(128, 128, 128, 0, 128, 128, 128, 0, 128, 128, 128, 0, 128, 128, 128, 0, 128, 128, 0);
        int[] data = joined(row(0, 0, 128, 128, 128, 128, 10, 19), row(0, 19, 0, 19, 0, 19, 0, 19, 0), zeros);
        refused("a part of bytes", TEXT, delta(joined(row(1, 8, 0), number(data.length), data)), BROKEN);
        int[] addresses = row(1, 0, 1, 2, 128, 128, 128, 128, 'a', 1);
        refused("a part of addresses", TEXT, delta(joined(row(0), number(addresses.length), addresses),
            window(row(1, 8, 0), 4, EMPTY, row(20), row(0))), BROKEN);
    }

    private static void numbersThatAreCut() {
        for (int which = 0; which < 9; which++) {
            for (int n = 0; n < 4; n++) {
                Fields f = withNumber(which, times(n, 128));
                if (which >= 2 && which < 7) {
                    // Behind it there are no bytes, so that it has no end.
                    int[] all = delta(f.bytes());
                    int end = HEAD.length + 3 + (which == 2 ? 0 : which == 3 ? 1 : which - 1) + n;
                    int[] cut = part(all, 0, end);
                    if (which > 2) {
                        cut[HEAD.length + 3] = end - HEAD.length - 4;
                    }
                    refused("number " + which + " is cut behind " + n, TEXT, cut, BROKEN);
                } else if (which == 8) {
                    dueFields("an address is cut behind " + n, f, BROKEN);
                } else if (which == 7) {
                    f.codes = joined(row(3, 20, 0), times(n, 128));
                    dueFields("a size is cut behind " + n, f, BROKEN);
                } else {
                    int[] all = part(delta(f.bytes()), 0, HEAD.length + 1 + which + n);
                    refused("number " + which + " is cut behind " + n, TEXT, all, BROKEN);
                }
            }
        }
    }

    private static void greatestNumbers() {
        for (int which = 0; which < 9; which++) {
            dueFields("the greatest number, " + which, withNumber(which, GREATEST), which == 3 ? LARGE : BROKEN);
        }
        Fields f = new Fields();
        f.sourceSize = GREATEST;
        f.sourcePlace = GREATEST;
        dueFields("the greatest source", f, BROKEN);
        f = new Fields();
        f.dataSize = GREATEST;
        f.codesSize = GREATEST;
        f.addressesSize = GREATEST;
        dueFields("the greatest parts", f, BROKEN);
        f = new Fields();
        f.codes = joined(row(3, 0, 3, 35), row(4));
        f.addresses = GREATEST;
        dueFields("the greatest less than HERE", f, BROKEN);
        f.codes = joined(row(3, 0, 3, 51), row(4));
        dueFields("the greatest in the first row", f, BROKEN);
    }

    // "bytes that are missing".
    private static void bytesThatAreMissing() {
        int[] window = new Fields().bytes();
        int[] all = delta(window, window);
        for (int n = 0; n < all.length; n++) {
            int[] cut = part(all, 0, n);
            if (n == HEAD.length) {
                made("no window", TEXT, cut, "");
            } else if (n == HEAD.length + window.length) {
                made("one window", TEXT, cut, "xyzzzcdef");
            } else {
                refused("cut behind " + n, TEXT, cut, BROKEN);
            }
        }
        made("two windows", TEXT, all, "xyzzzcdefxyzzzcdef");
    }

    // "or left".
    private static void bytesThatAreLeft() {
        int[] window = new Fields().bytes();
        for (int b = 0; b < 256; b++) {
            refused("a byte " + b + " is left", TEXT, delta(window, row(b)), BROKEN);
        }
        refused("a byte is left of no window", "", delta(row(0)), BROKEN);
        refused("two bytes are left", TEXT, delta(window, row(0, 0)), BROKEN);
    }

    // "nothing is read beyond the end of a window".
    private static void nothingIsReadBeyondAWindow() {
        Fields f = new Fields();
        int n = f.body().length;
        for (int count = 0; count < n; count++) {
            f.count = number(count);
            dueFields("a window of " + count + " bytes", f, BROKEN);
        }
        f.count = number(n);
        dueFields("a window of all bytes", f, 9);
        // What the second window has would fill the first one.
        Fields g = new Fields();
        g.count = number(n + 1);
        refused("a window of one more byte", TEXT, delta(g.bytes(), addition("a")), BROKEN);
    }

    // "which must not be beyond the bytes that there are".
    private static void windowBeyondTheBytes() {
        Fields f = new Fields();
        int n = f.body().length;
        for (int more : row(1, 2, 100)) {
            f.count = number(n + more);
            dueFields(more + " bytes more than there are", f, BROKEN);
            refused(more + " bytes more, which are there", TEXT, delta(f.bytes(), times(more, 0)), BROKEN);
        }
        f = new Fields();
        f.size = number(301);
        f.count = number(n + 2);
        dueFields("beyond the bytes is met before the size", f, BROKEN);
    }

    // "LARGE, if the RESULT would get longer than 300 ... by a window's size".
    private static void resultOfAtMost300() {
        for (int first : row(0, 1, 150, 299, 300)) {
            for (int second : row(0, 1, 2, 150, 151, 299, 300, 301)) {
                int[] all = delta(window(row(0), first, row('a'), joined(row(0), number(first)), EMPTY),
                    window(row(0), second, row('b'), joined(row(0), number(second)), EMPTY));
                if (first + second > 300) {
                    refused(first + " and " + second, "", all, LARGE);
                } else {
                    made(first + " and " + second, EMPTY, all, joined(times(first, 'a'), times(second, 'b')));
                }
            }
        }
        int[] old = mixed(300, 2);
        made("300 that are copied", old,
            delta(window(row(1, 130, 44, 0), 300, EMPTY, row(19, 130, 44), row(0))), old);
        refused("301 that are copied", old,
            delta(window(row(1, 130, 44, 0), 301, EMPTY, row(19, 130, 45), row(0))), LARGE);
        made("300 that are added", old, delta(addition(old)), old);
        refused("301 that are added", old, delta(addition(mixed(301, 2))), LARGE);
    }

    private static void largeByTheSizeAlone() {
        refused("a size of 301, and nothing", "", delta(window(row(0), 301, EMPTY, EMPTY, EMPTY)), LARGE);
        refused("a size of 300, and nothing", "", delta(window(row(0), 300, EMPTY, EMPTY, EMPTY)), BROKEN);
        refused("a size of 301, and no more bytes", "", delta(row(0, 2, 130, 45)), LARGE);
        refused("a size of 300, and no more bytes", "", delta(row(0, 2, 130, 44)), BROKEN);
        refused("instructions that make 301 of 300", "",
            delta(window(row(0), 300, row('a'), row(0, 130, 45), EMPTY)), BROKEN);
    }

    // "SECOND, if ... the byte behind a window's size one of the bits 1, 2, 4"; "other bits" are BROKEN.
    private static void byteBehindTheSize() {
        for (int b = 0; b < 256; b++) {
            Fields f = new Fields();
            f.second = row(b);
            dueFields("the byte behind the size is " + b, f, b == 0 ? 9 : b % 8 != 0 ? SECOND : BROKEN);
        }
    }

    // "parts that do not fill the window's bytes".
    private static void partsThatDoNotFillTheBytes() {
        for (int which = 4; which <= 6; which++) {
            for (int more : row(-1, 1, 2, 126)) {
                if (NUMBERS[which] + more >= 0) {
                    dueFields("part " + which + " by " + more, withNumber(which, number(NUMBERS[which] + more)), BROKEN);
                }
            }
        }
        Fields f = new Fields();
        f.dataSize = row(4);
        f.addressesSize = row(0);
        dueFields("the parts are shifted", f, BROKEN);
        int[] body = joined(new Fields().body(), row(0));
        refused("a byte behind the parts", TEXT, delta(joined(row(1, 8, 0), number(body.length), body)), BROKEN);
        refused("no parts, but a byte", "", delta(row(0, 6, 0, 0, 0, 0, 0, 0)), BROKEN);
        made("no parts, and no byte", "", delta(row(0, 5, 0, 0, 0, 0, 0)), "");
    }

    // "... or its size".
    private static void partsThatDoNotFillTheSize() {
        for (int size : row(0, 1, 4, 5, 8, 10, 11, 291, 300)) {
            Fields f = new Fields();
            f.size = number(size);
            dueFields("a size of " + size, f, BROKEN);
        }
        int[] none = row(0);
        refused("ADD: one too many", "", delta(window(none, 2, bytesOf("abc"), row(4), EMPTY)), BROKEN);
        refused("ADD: one too few", "", delta(window(none, 4, bytesOf("abc"), row(4), EMPTY)), BROKEN);
        refused("RUN: one too many", "", delta(window(none, 2, row('a'), row(0, 3), EMPTY)), BROKEN);
        refused("RUN: one too few", "", delta(window(none, 4, row('a'), row(0, 3), EMPTY)), BROKEN);
        refused("COPY: one too many", TEXT, delta(window(row(1, 8, 0), 3, EMPTY, row(20), row(0))), BROKEN);
        refused("COPY: one too few", TEXT, delta(window(row(1, 8, 0), 5, EMPTY, row(20), row(0))), BROKEN);
        refused("the second of a code: one too many", TEXT,
            delta(window(row(1, 8, 0), 4, row('a'), row(163), row(0))), BROKEN);
        refused("a code more", "", delta(window(none, 3, bytesOf("abcd"), row(4, 2), EMPTY)), BROKEN);
        refused("too many where the next window has room", "",
            delta(window(none, 2, bytesOf("abc"), row(4), EMPTY), addition("d")), BROKEN);
    }

    // "... or are not used up".
    private static void partsThatAreNotUsedUp() {
        Fields f = new Fields();
        f.data = bytesOf("xyz!");
        dueFields("a byte more", f, BROKEN);
        f = new Fields();
        f.addresses = row(2, 2);
        dueFields("an address more", f, BROKEN);
        refused("bytes, and no code", "", delta(window(row(0), 0, row('a'), EMPTY, EMPTY)), BROKEN);
        refused("an address, and no code", TEXT, delta(window(row(1, 8, 0), 0, EMPTY, EMPTY, row(0))), BROKEN);
        refused("an address of two bytes by one", TEXT,
            delta(window(row(1, 8, 0), 8, EMPTY, row(20, 116), row(128, 0, 0, 0))), BROKEN);
    }

    private static void partsThatAreTooShort() {
        Fields f = new Fields();
        f.data = bytesOf("xy");
        dueFields("a run's byte", f, BROKEN);
        f = new Fields();
        f.data = EMPTY;
        dueFields("bytes", f, BROKEN);
        f = new Fields();
        f.addresses = EMPTY;
        dueFields("an address", f, BROKEN);
        f = new Fields();
        f.codes = row(3, 20, 0);
        dueFields("a size", f, BROKEN);
        f = new Fields();
        f.codes = EMPTY;
        dueFields("codes", f, BROKEN);
        refused("an address of one byte", TEXT, delta(window(row(1, 8, 0), 4, EMPTY, row(116), EMPTY)), BROKEN);
        refused("an address of one byte", TEXT, delta(window(row(1, 8, 0), 8, EMPTY, row(20, 116), row(0))), BROKEN);
        // What comes behind would fill the window.
        refused("an ADD that has too few bytes", TEXT,
            delta(window(row(1, 8, 0), 3, bytesOf("ab"), row(4, 3, 19, 1), row(0))), BROKEN);
        refused("a RUN that has no byte", TEXT, delta(window(row(1, 8, 0), 3, EMPTY, row(0, 3, 19, 3), row(0))), BROKEN);
        refused("a COPY that has no address", TEXT, delta(window(row(1, 8, 0), 4, EMPTY, row(20, 20), row(8, 0))), BROKEN);
        refused("a COPY that is too long", TEXT, delta(window(row(1, 8, 0), 4, EMPTY, row(21, 20), row(0, 0))), BROKEN);
        // Bytes are read from their own part, though there are others behind it.
        refused("more bytes than the part has", "", delta(window(row(0), 3, bytesOf("ab"), row(4), EMPTY)), BROKEN);
        refused("more addresses than the part has", TEXT,
            delta(window(row(1, 8, 0), 8, EMPTY, row(20, 20), row(0)), addition("abc")), BROKEN);
    }

    // "The window's size and parts may be any that fit together, codes too".
    private static void windowsOfAnySize() {
        made("windows of nothing", "", delta(window(row(0), 0, EMPTY, EMPTY, EMPTY),
            window(row(0), 0, EMPTY, EMPTY, EMPTY)), "");
        made("windows of other sizes", "", delta(addition("a"), addition("bcd"), addition("ef"), addition(EMPTY)), "abcdef");
        made("a window of 257", EMPTY, delta(addition(mixed(257, 3))), mixed(257, 3));
        made("codes that need not be", TEXT,
            delta(window(row(1, 8, 0), 5, bytesOf("aab"), row(2, 2, 1, 1, 19, 2), row(1))), "aabbc");
    }

    // "CHECK, if a window has not the check that is told".
    private static void checkOfAWindow() {
        int[] text = bytesOf("xyzzzcdef");
        for (int bit = 0; bit < 32; bit++) {
            Fields f = new Fields();
            f.kind = 5;
            f.check = told(check(text) ^ 1L << bit);
            dueFields("another bit " + bit, f, CHECK);
        }
        Fields f = new Fields();
        f.kind = 5;
        f.check = told(check(text));
        dueFields("the check", f, 9);
        f.check = row(f.check[3], f.check[2], f.check[1], f.check[0]);
        dueFields("the lowest first", f, CHECK);
        int[] much = times(300, 255);
        made("a check of much", EMPTY,
            delta(window(row(4), 300, told(check(much)), row(255), row(0, 130, 44), EMPTY)), much);
        made("the check of nothing", "", delta(window(row(4), 0, row(0, 0, 0, 1), EMPTY, EMPTY, EMPTY)), "");
        refused("another check of nothing", "", delta(window(row(4), 0, row(0, 0, 0, 0), EMPTY, EMPTY, EMPTY)), CHECK);
        int[] first = window(row(4), 2, told(check(bytesOf("ab"))), bytesOf("ab"), row(3), EMPTY);
        made("each window's own", "", delta(first, first), "abab");
        int[] whole = window(row(4), 2, told(check(bytesOf("abab"))), bytesOf("ab"), row(3), EMPTY);
        refused("not the check of all", "", delta(first, whole), CHECK);
        made("not told, not looked at", "", delta(first, addition("xy"), first), "abxyab");
        made("of a source in the RESULT", "", delta(first,
            window(row(6, 2, 0), 2, told(check(bytesOf("ab"))), EMPTY, row(19, 2), row(0))), "abab");
        refused("of a source in the RESULT", "", delta(first,
            window(row(6, 2, 0), 2, told(check(bytesOf("ba"))), EMPTY, row(19, 2), row(0))), CHECK);
    }

    private static void checkThatIsCut() {
        for (int n = 0; n < 4; n++) {
            refused("a check of " + n + " bytes", "",
                delta(window(row(4), 0, part(row(0, 0, 0, 1), 0, n), EMPTY, EMPTY, EMPTY)), BROKEN);
        }
        refused("a check of five bytes", "", delta(window(row(4), 0, row(0, 0, 0, 0, 1), EMPTY, EMPTY, EMPTY)), BROKEN);
        refused("a check that is not told", "", delta(window(row(0), 0, row(0, 0, 0, 1), EMPTY, EMPTY, EMPTY)), BROKEN);
    }

    private static int[] copyFrom(int code, int... address) {
        return window(row(1, 8, 0), 6, row(1, 2), row(3, code), address);
    }

    private static void dueCopy(String what, int code, int number, int address) {
        int[] all = delta(copyFrom(code, number(number)));
        if (address < 0 || address >= 10) {
            refused(what, TEXT, all, BROKEN);
            return;
        }
        int[] u = joined(bytesOf(TEXT), row(1, 2), times(4, 0));
        for (int i = 0; i < 4; i++) {
            u[10 + i] = u[address + i];
        }
        made(what, bytesOf(TEXT), all, part(u, 8, 6));
    }

    // "an address is below HERE" - mode 0; HERE is 10 here.
    private static void addressBelowHere() {
        for (int address = 0; address <= 12; address++) {
            dueCopy("address " + address, 20, address, address);
        }
        dueCopy("address 128", 20, 128, 128);
        refused("HERE is 0", "", delta(window(row(0), 4, EMPTY, row(20), row(0))), BROKEN);
        refused("HERE is 0, with mode 1", "", delta(window(row(0), 4, EMPTY, row(36), row(0))), BROKEN);
        refused("HERE is 0, with mode 6", "", delta(window(row(0), 4, EMPTY, row(116), row(0))), BROKEN);
    }

    // "an address that is below 0 or not below HERE" - mode 1.
    private static void addressLessThanHere() {
        for (int number = 0; number <= 13; number++) {
            dueCopy("HERE less " + number, 36, number, 10 - number);
        }
        dueCopy("HERE less 16384", 36, 16384, 10 - 16384);
    }

    // Modes 2 .. 5, behind one address.
    private static void addressOfTheFirstRow() {
        for (int number = 0; number <= 16; number++) {
            int[] all = delta(window(row(1, 8, 0), 8, EMPTY, row(20, 52), joined(row(3), number(number))));
            if (3 + number >= 12) {
                refused("3 and " + number, TEXT, all, BROKEN);
            } else {
                int[] u = joined(bytesOf(TEXT), bytesOf("defg"), times(4, 0));
                for (int i = 0; i < 4; i++) {
                    u[12 + i] = u[3 + number + i];
                }
                made("3 and " + number, bytesOf(TEXT), all, part(u, 8, 8));
            }
        }
        for (int mode = 2; mode <= 5; mode++) {
            dueCopy("0 and 5, with mode " + mode, 20 + 16 * mode, 5, 5);
            dueCopy("0 and 10, with mode " + mode, 20 + 16 * mode, 10, 10);
        }
    }

    // "The next SAME modes: by one byte x".
    private static void addressOfTheSecondRow() {
        int[] old = mixed(300, 4);
        int[] source = row(1, 130, 44, 0);
        for (int address : row(0, 1, 127, 128, 255, 256, 257, 295)) {
            int[] four = part(old, address, 4);
            made("address " + address + " again", old, delta(window(source, 8, EMPTY,
                row(20, 116 + 16 * (address / 256)), joined(number(address), row(address % 256)))), joined(four, four));
            for (int mode = 6; mode <= 8; mode++) {
                for (int x : row(0, 127, 128, 255)) {
                    if (256 * (mode - 6) + x != address) {
                        made("another of the second row", old, delta(window(source, 8, EMPTY,
                            row(20, 20 + 16 * mode), joined(number(address), row(x)))), joined(four, part(old, 0, 4)));
                    }
                }
            }
        }
        // An address in the window, from 512 on: the last mode.
        int[] many = part(old, 0, 220);
        int[] four = part(old, 214, 4);
        made("address 514 again", old, delta(window(source, 228, EMPTY, row(19, 129, 92, 20, 148),
            joined(row(0), number(514), row(2)))), joined(many, four, four));
    }

    // "(0, 1, .., and round again)".
    private static void firstRowGoesRound() {
        int[] old = mixed(300, 5);
        for (int many = 0; many <= 10; many++) {
            for (int mode = 2; mode <= 5; mode++) {
                int[] codes = EMPTY;
                int[] addresses = EMPTY;
                int[] result = EMPTY;
                int slot = 0;
                for (int i = 0; i < many; i++) {
                    int address = 13 + 17 * i;
                    codes = joined(codes, row(20));
                    addresses = joined(addresses, number(address));
                    result = joined(result, part(old, address, 4));
                    slot = i % 4 == mode - 2 ? address : slot;
                }
                codes = joined(codes, row(20 + 16 * mode));
                result = joined(result, part(old, slot + 3, 4));
                made("mode " + mode + " behind " + many, old, delta(window(row(1, 130, 44, 0), result.length, EMPTY,
                    codes, joined(addresses, row(3)))), result);
            }
        }
    }

    // "In both rows all are 0 at a window's beginning".
    private static void rowsAreEmptyInEachWindow() {
        int[] source = row(1, 8, 0);
        int[] tell = window(source, 4, EMPTY, row(20), row(4));
        for (int mode = 2; mode <= 8; mode++) {
            int number = mode >= 6 ? 4 : 0;
            made("mode " + mode, TEXT, delta(tell, window(source, 4, EMPTY, row(20 + 16 * mode), row(number))), "efghabcd");
        }
        made("the turn, too", TEXT, delta(tell, window(source, 8, EMPTY, row(20, 52), row(2, 1))), "efghcdefdefg");
        made("the turn, too", TEXT, delta(tell, window(source, 8, EMPTY, row(20, 68), row(2, 1))), "efghcdefbcde");
        DeltaFerry x = read("a delta", TEXT, delta(tell), 4);
        fill(x, 2, delta(window(source, 4, EMPTY, row(116), row(4))));
        due("the next delta", x.decode(), 4);
        dueFile("the next delta", x, 3, bytesOf("abcd"));
    }

    // "U being the SOURCE and behind it the window itself (so that a copy may reach into what it makes)".
    private static void copyOverTheSourcesEnd() {
        made("into what it makes, by one", "", delta(window(row(0), 6, row('a'), row(2, 19, 5), row(0))), "aaaaaa");
        made("into what it makes, by two", "", delta(window(row(0), 7, bytesOf("ab"), row(3, 19, 5), row(0))), "abababa");
        made("over the source's end", TEXT, delta(window(row(1, 8, 0), 6, bytesOf("xy"), row(3, 20), row(6))), "xyghxy");
        made("from the source's last byte on", TEXT, delta(window(row(1, 8, 0), 4, EMPTY, row(20), row(7))), "hhhh");
        made("from the source's end on", TEXT, delta(window(row(1, 8, 0), 6, bytesOf("xy"), row(3, 20), row(8))), "xyxyxy");
        // The source ends where it is told to, not where OLD ends.
        made("of a part of OLD", TEXT, delta(window(row(1, 3, 2), 8, bytesOf("xy"), row(3, 22), row(1))), "xydexyde");
    }

    private static int[] refusedWindow(int answer) {
        switch (answer) {
            case SECOND: return row(0, 2, 0, 1);
            case LARGE: return row(0, 2, 130, 45);
            case CHECK: return window(row(4), 0, row(0, 0, 0, 0), EMPTY, EMPTY, EMPTY);
            default: return row(8);
        }
    }

    // "What is refused, as soon as it is met".
    private static void whatIsMetFirst() {
        int[] answers = {BROKEN, SECOND, LARGE, CHECK};
        for (int first : answers) {
            for (int second : answers) {
                int[] one = refusedWindow(first);
                int[] two = refusedWindow(second);
                if (first != BROKEN) {
                    refused(first + " before " + second, "", delta(one, two), first);
                }
                refused(first + " behind a window", "", delta(addition("abc"), one), first);
            }
        }
        int[] wrong = delta(refusedWindow(LARGE));
        wrong[4] = 1;
        refused("the fifth byte before a window", "", wrong, SECOND);
        wrong[3] = 1;
        refused("the fourth byte before the fifth", "", wrong, BROKEN);
        Fields f = new Fields();
        f.kind = 5;
        f.sourceSize = row(9);
        f.size = number(301);
        f.second = row(1);
        f.data = bytesOf("xy");
        dueFields("the source before the size", f, BROKEN);
        f.sourceSize = row(8);
        dueFields("the size before the byte behind it", f, LARGE);
        f.size = row(9);
        dueFields("that byte before the parts", f, SECOND);
        f.second = row(0);
        f.check = row(1, 2, 3, 4);
        dueFields("the parts before the check", f, BROKEN);
        f.data = bytesOf("xyz");
        dueFields("the check at last", f, CHECK);
    }

    // Promise 15: "BROKEN, SECOND, LARGE, TABLE or CHECK, when that is refused; the RESULT stays then."
    private static void resultStays() {
        for (int answer : row(BROKEN, SECOND, LARGE, CHECK, TABLE)) {
            DeltaFerry x = new DeltaFerry();
            giveResult(x, bytesOf("result"));
            fill(x, 2, answer == TABLE ? withTable(9, 0, EMPTY) : delta(addition("other"), refusedWindow(answer)));
            for (int time = 0; time < 2; time++) {
                due("refused", x.decode(), answer);
                dueFile("the RESULT stays", x, 3, bytesOf("result"));
            }
            fill(x, 2, delta(addition("other")));
            due("not refused", x.decode(), 5);
            dueFile("the RESULT becomes what it says", x, 3, bytesOf("other"));
        }
    }

    private static void decodeChangesOnlyTheResult() {
        DeltaFerry x = with("abcdefgh", "abcdefgh");
        x.sign(4);
        x.scan(16);
        int[] bytes = delta(new Fields().bytes());
        for (int address : row(2, 200)) {
            bytes[bytes.length - 1] = address;
            fill(x, 2, bytes);
            due("decode", x.decode(), address == 2 ? 9 : BROKEN);
            dueFile("OLD", x, 0, bytesOf(TEXT));
            dueFile("NEW", x, 1, bytesOf(TEXT));
            dueFile("DELTA", x, 2, bytes);
            duePlan("the plan", x, copy(8, 0, 0));
            due("the signature", x.scan(16), 1);
        }
    }

    private static void resultIsMadeAnew() {
        DeltaFerry x = new DeltaFerry();
        giveResult(x, mixed(300, 6));
        giveResult(x, bytesOf("abc"));
        dueFile("a shorter RESULT", x, 3, bytesOf("abc"));
        giveResult(x, mixed(300, 7));
        dueFile("a longer RESULT", x, 3, mixed(300, 7));
        int[] all = delta(addition(mixed(300, 8)), row(0, 8, 128, 128, 128, 0, 0, 0, 0, 0), row(0, 128, 5, 0, 0, 0, 0, 0));
        for (int i = 0; i < 52; i++) {
            all = joined(all, row(0, 5, 0, 0, 0, 0, 0));
        }
        due("a delta of the most bytes", all.length, 700);
        fill(x, 2, all);
        due("a delta of the most bytes", x.decode(), 300);
        dueFile("a delta of the most bytes", x, 3, mixed(300, 8));
        x.set(2, 699, 1);
        due("its last byte", x.decode(), BROKEN);
    }
}
