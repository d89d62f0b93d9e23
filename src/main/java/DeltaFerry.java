import java.util.Arrays;

/**
 * Carries a file to one who has an older one: signs the old file, plans how the new one is made of
 * it, writes the plan as a packed delta, and reads any bytes back as far as they are such a delta.
 */
public final class DeltaFerry {
    public static final int NONE = -1, BROKEN = -2, SECOND = -3, LARGE = -4, TABLE = -5, CHECK = -6, OTHER = -7;
    public static final int ADD = 1, RUN = 2, COPY = 3;

    private static final int OLD = 0, NEW = 1, DELTA = 2, RESULT = 3;
    private static final int FILE_ROOM = 300, DELTA_ROOM = 700, TABLE_ROOM = 1536;
    private static final int TABLE_SIZES = 512, TABLE_MODES = 1024;
    private static final int LEAST_BLOCK = 4, MOST_BLOCK = 64;
    private static final int LEAST_WINDOW = 16, MOST_WINDOW = 256;
    private static final int MOST_CHAIN = 16;
    private static final int MATCH = 4;
    private static final int NEAR = 4, SAME = 3, MOST_NEAR = 8, MOST_SAME = 4;
    private static final int FINE = 0;
    private static final int SIGNING = 0, SENDING = 1, READING = 2;

    private final Row[] files = new Row[4];
    private final Digester digester = new Digester();
    private final WeakSum weakSum = new WeakSum();
    private final Signature signature = new Signature();
    private final Plan plan = new Plan();
    private final Matcher matcher = new Matcher();
    private final Writer writer = new Writer();
    private final Reader reader = new Reader();
    private int block = 8;
    private int window = 64;
    private int nextStep = SIGNING;
    private long notedFirst;
    private long notedLast;

    public DeltaFerry() {
        files[OLD] = new Row(FILE_ROOM);
        files[NEW] = new Row(FILE_ROOM);
        files[DELTA] = new Row(DELTA_ROOM);
        files[RESULT] = new Row(FILE_ROOM);
    }

    public boolean put(int file, long bytes, int n) {
        if (!isWritable(file) || n < 1 || n > 8 || files[file].left() < n) {
            return false;
        }
        for (int i = 0; i < n; i++) {
            files[file].push((int) (bytes >>> (8 * i)) & 255);
        }
        giveUpPlanOf(file);
        return true;
    }

    public boolean set(int file, int at, int b) {
        if (!isWritable(file) || !files[file].has(at)) {
            return false;
        }
        files[file].cells[at] = b & 255;
        giveUpPlanOf(file);
        return true;
    }

    public boolean copy(int from, int to) {
        if (!isFile(from) || !isWritable(to) || files[from].count > files[to].cells.length) {
            return false;
        }
        files[to].become(files[from]);
        giveUpPlanOf(to);
        return true;
    }

    public int clear(int file) {
        if (!isFile(file)) {
            return NONE;
        }
        int had = files[file].count;
        files[file].count = 0;
        giveUpPlanOf(file);
        return had;
    }

    public int size(int file) {
        return isFile(file) ? files[file].count : NONE;
    }

    public int at(int file, int i) {
        return isFile(file) && files[file].has(i) ? files[file].cells[i] : NONE;
    }

    public long digest(int file, int half) {
        if (!isFile(file)) {
            return 0;
        }
        digester.take(files[file].cells, 0, files[file].count);
        return half == 0 ? digester.firstHalf() : digester.lastHalf();
    }

    public long sum(int file, int from, int n) {
        if (!isFile(file) || from < 0 || n < 0) {
            return NONE;
        }
        Row row = files[file];
        if (n == 0) {
            return from == 0 ? checkOf(row.cells, 0, row.count) : NONE;
        }
        if (from > row.count - n) {
            return NONE;
        }
        weakSum.take(row.cells, from, n);
        return weakSum.value();
    }

    public int sign(int block) {
        if (!isBlock(block)) {
            return NONE;
        }
        signature.make(files[OLD], block);
        return signature.count;
    }

    public int scan(int window) {
        if (!signature.made || !isWindow(window)) {
            return NONE;
        }
        Row fresh = files[NEW];
        int size = signature.block;
        plan.open(window, signature.reach());
        weakSum.forget();
        for (int p = 0; p < fresh.count; p++) {
            int found = signature.findAt(fresh, p, weakSum);
            if (found >= 0) {
                plan.extend(COPY, p, size, found * size);
                p += size - 1;
            } else {
                plan.extend(ADD, p, 1, NONE);
            }
        }
        return plan.count;
    }

    public int differ(int chain, int window) {
        if (chain < 1 || chain > MOST_CHAIN || !isWindow(window)) {
            return NONE;
        }
        plan.open(window, files[OLD].count);
        matcher.takeSource(files[OLD], chain);
        for (int number = 0; number * window < files[NEW].count; number++) {
            matcher.takeWindow(files[NEW], number * window, window);
            matcher.planWindow(plan, number);
        }
        return plan.count;
    }

    public int instruction(int i, int what) {
        if (!plan.made || i < 0 || i >= plan.count) {
            return NONE;
        }
        switch (what) {
            case 0:
                return plan.types[i];
            case 1:
                return plan.sizes[i];
            case 2:
                return plan.addresses[i];
            case 3:
                return plan.numbers[i];
            default:
                return NONE;
        }
    }

    public int encode(boolean checked) {
        if (!plan.made) {
            return NONE;
        }
        writer.open();
        for (int number = 0; number * plan.window < files[NEW].count; number++) {
            writer.writeWindow(plan, files[NEW], number, checked);
        }
        if (writer.out.count > DELTA_ROOM) {
            return LARGE;
        }
        files[DELTA].become(writer.out);
        return files[DELTA].count;
    }

    public int decode() {
        int answer = reader.open(files[DELTA]);
        if (answer == FINE && reader.tableFollows()) {
            answer = reader.enterTable();
            if (answer == FINE) {
                answer = reader.leaveTable(reader.readWindows());
            }
        }
        if (answer == FINE) {
            reader.enterResult(files[OLD]);
            answer = reader.readWindows();
        }
        if (answer != FINE) {
            return answer;
        }
        files[RESULT].become(reader.madeResult);
        return files[RESULT].count;
    }

    public boolean begin(int block, int window) {
        if (!isBlock(block) || !isWindow(window)) {
            return false;
        }
        this.block = block;
        this.window = window;
        nextStep = SIGNING;
        return true;
    }

    public int step() {
        if (nextStep == SIGNING) {
            nextStep = SENDING;
            return sign(block);
        }
        if (nextStep == SENDING) {
            int answer = scan(window);
            if (answer >= 0) {
                answer = encode(true);
            }
            notedFirst = digest(NEW, 0);
            notedLast = digest(NEW, 1);
            nextStep = answer < 0 ? SIGNING : READING;
            return answer;
        }
        nextStep = SIGNING;
        int answer = decode();
        boolean asNoted = digest(RESULT, 0) == notedFirst && digest(RESULT, 1) == notedLast;
        return answer >= 0 && !asNoted ? OTHER : answer;
    }

    private void giveUpPlanOf(int file) {
        if (file == NEW) {
            plan.made = false;
        }
    }

    private static boolean isFile(int file) {
        return file >= OLD && file <= RESULT;
    }

    private static boolean isWritable(int file) {
        return file >= OLD && file <= DELTA;
    }

    private static boolean isBlock(int block) {
        return block >= LEAST_BLOCK && block <= MOST_BLOCK;
    }

    private static boolean isWindow(int window) {
        return window >= LEAST_WINDOW && window <= MOST_WINDOW;
    }

    private static long checkOf(int[] cells, int from, int n) {
        int a = 1;
        int b = 0;
        for (int i = from; i < from + n; i++) {
            a = (a + cells[i]) % 65521;
            b = (b + a) % 65521;
        }
        return 65536L * b + a;
    }

    /** Bytes one behind the other, at most as many as there was room made for. */
    private static final class Row {
        final int[] cells;
        int count;

        Row(int room) {
            cells = new int[room];
        }

        int left() {
            return cells.length - count;
        }

        boolean has(int place) {
            return place >= 0 && place < count;
        }

        void push(int b) {
            if (count < cells.length) {
                cells[count] = b;
                count++;
            }
        }

        void pushNumber(int value) {
            for (int shift = 21; shift > 0; shift -= 7) {
                if (value >>> shift != 0) {
                    push(128 | (value >>> shift) & 127);
                }
            }
            push(value & 127);
        }

        void pushPart(int[] from, int place, int n) {
            int most = Math.min(n, left());
            System.arraycopy(from, place, cells, count, most);
            count += most;
        }

        void become(Row other) {
            // A row may become as it is itself: its count is asked for before it is emptied.
            int n = other.count;
            count = 0;
            pushPart(other.cells, 0, n);
        }
    }

    /** The digest of bytes; it is read off after they were taken. */
    private static final class Digester {
        private static final int[] K = {
            0xd76aa478, 0xe8c7b756, 0x242070db, 0xc1bdceee, 0xf57c0faf, 0x4787c62a, 0xa8304613, 0xfd469501,
            0x698098d8, 0x8b44f7af, 0xffff5bb1, 0x895cd7be, 0x6b901122, 0xfd987193, 0xa679438e, 0x49b40821,
            0xf61e2562, 0xc040b340, 0x265e5a51, 0xe9b6c7aa, 0xd62f105d, 0x02441453, 0xd8a1e681, 0xe7d3fbc8,
            0x21e1cde6, 0xc33707d6, 0xf4d50d87, 0x455a14ed, 0xa9e3e905, 0xfcefa3f8, 0x676f02d9, 0x8d2a4c8a,
            0xfffa3942, 0x8771f681, 0x6d9d6122, 0xfde5380c, 0xa4beea44, 0x4bdecfa9, 0xf6bb4b60, 0xbebfbc70,
            0x289b7ec6, 0xeaa127fa, 0xd4ef3085, 0x04881d05, 0xd9d4d039, 0xe6db99e5, 0x1fa27cf8, 0xc4ac5665,
            0xf4292244, 0x432aff97, 0xab9423a7, 0xfc93a039, 0x655b59c3, 0x8f0ccc92, 0xffeff47d, 0x85845dd1,
            0x6fa87e4f, 0xfe2ce6e0, 0xa3014314, 0x4e0811a1, 0xf7537e82, 0xbd3af235, 0x2ad7d2bb, 0xeb86d391
        };
        private static final int[] TURNS = {7, 12, 17, 22, 5, 9, 14, 20, 4, 11, 16, 23, 6, 10, 15, 21};

        final int[] state = new int[4];
        private final int[] words = new int[16];

        void take(int[] cells, int from, int n) {
            state[0] = 0x67452301;
            state[1] = 0xefcdab89;
            state[2] = 0x98badcfe;
            state[3] = 0x10325476;
            int padded = ((n + 8) / 64 + 1) * 64;
            for (int done = 0; done < padded; done += 64) {
                Arrays.fill(words, 0);
                for (int i = 0; i < 64 && done + i <= n; i++) {
                    int b = done + i < n ? cells[from + done + i] : 128;
                    words[i / 4] |= b << (8 * (i % 4));
                }
                if (done + 64 == padded) {
                    // 8 n fits the lower one of the two words that tell it.
                    words[14] = 8 * n;
                }
                mixWords();
            }
        }

        long firstHalf() {
            return lowestFirst(state[0]) << 32 | lowestFirst(state[1]);
        }

        long lastHalf() {
            return lowestFirst(state[2]) << 32 | lowestFirst(state[3]);
        }

        private void mixWords() {
            int a = state[0];
            int b = state[1];
            int c = state[2];
            int d = state[3];
            for (int i = 0; i < 64; i++) {
                int mixed = a + mixOf(i / 16, b, c, d) + K[i] + words[wordOf(i)];
                int turn = TURNS[i / 16 * 4 + i % 4];
                a = d;
                d = c;
                c = b;
                b += mixed << turn | mixed >>> (32 - turn);
            }
            state[0] += a;
            state[1] += b;
            state[2] += c;
            state[3] += d;
        }

        private static int mixOf(int round, int b, int c, int d) {
            switch (round) {
                case 0:
                    return b & c | ~b & d;
                case 1:
                    return d & b | ~d & c;
                case 2:
                    return b ^ c ^ d;
                default:
                    return c ^ (b | ~d);
            }
        }

        private static int wordOf(int i) {
            switch (i / 16) {
                case 0:
                    return i;
                case 1:
                    return (5 * i + 1) % 16;
                case 2:
                    return (3 * i + 5) % 16;
                default:
                    return 7 * i % 16;
            }
        }

        private static long lowestFirst(int word) {
            long value = 0;
            for (int i = 0; i < 4; i++) {
                value = value << 8 | (word >>> (8 * i)) & 255;
            }
            return value;
        }
    }

    /** The weak sum of some bytes, which can be carried one byte on without summing anew. */
    private static final class WeakSum {
        private int from;
        private int n;
        private int plain;
        private int weighted;

        void forget() {
            n = 0;
        }

        void take(int[] cells, int from, int n) {
            this.from = from;
            this.n = n;
            plain = 0;
            weighted = 0;
            for (int i = 0; i < n; i++) {
                plain += cells[from + i];
                weighted += (n - i) * cells[from + i];
            }
        }

        void moveTo(int[] cells, int place, int many) {
            if (many != n || place != from + 1) {
                take(cells, place, many);
                return;
            }
            plain += cells[from + n] - cells[from];
            weighted += plain - n * cells[from];
            from = place;
        }

        long value() {
            return 65536L * (weighted & 65535) + (plain & 65535);
        }
    }

    /** What is known of the whole blocks of OLD as it was when it was signed. */
    private static final class Signature {
        private final Digester digester = new Digester();
        private final long[] weakSums = new long[FILE_ROOM / LEAST_BLOCK];
        private final long[] firstHalves = new long[FILE_ROOM / LEAST_BLOCK];
        private final long[] lastHalves = new long[FILE_ROOM / LEAST_BLOCK];
        private final WeakSum weakSum = new WeakSum();
        boolean made;
        int block;
        int count;

        int reach() {
            return count * block;
        }

        void make(Row old, int size) {
            made = true;
            block = size;
            count = 0;
            for (int from = 0; from + size <= old.count; from += size) {
                weakSum.take(old.cells, from, size);
                digester.take(old.cells, from, size);
                weakSums[count] = weakSum.value();
                firstHalves[count] = digester.firstHalf();
                lastHalves[count] = digester.lastHalf();
                count++;
            }
        }

        /** The first block that the bytes from a place on are like, or NONE. */
        int findAt(Row fresh, int place, WeakSum rolling) {
            if (place + block > fresh.count) {
                return NONE;
            }
            rolling.moveTo(fresh.cells, place, block);
            long weak = rolling.value();
            boolean digested = false;
            for (int i = 0; i < count; i++) {
                if (weakSums[i] == weak) {
                    // The digest is dear: it is made only behind a weak sum that fits, and once.
                    if (!digested) {
                        digester.take(fresh.cells, place, block);
                        digested = true;
                    }
                    if (firstHalves[i] == digester.firstHalf() && lastHalves[i] == digester.lastHalf()) {
                        return i;
                    }
                }
            }
            return NONE;
        }
    }

    /** By what instructions NEW is made, window by window. */
    private static final class Plan {
        final int[] types = new int[FILE_ROOM];
        final int[] sizes = new int[FILE_ROOM];
        final int[] addresses = new int[FILE_ROOM];
        final int[] numbers = new int[FILE_ROOM];
        boolean made;
        int count;
        int window = LEAST_WINDOW;
        int source;

        void open(int window, int source) {
            this.window = window;
            this.source = source;
            made = true;
            count = 0;
        }

        void append(int type, int size, int address, int number) {
            if (count < FILE_ROOM) {
                types[count] = type;
                sizes[count] = size;
                addresses[count] = address;
                numbers[count] = number;
                count++;
            }
        }

        /** Takes bytes of NEW into the last instruction where they go on with it, and cuts them where windows end. */
        void extend(int type, int from, int n, int address) {
            int end = from + n;
            for (int place = from; place < end; place++) {
                int number = place / window;
                int part = Math.min(end, (number + 1) * window) - place;
                int partAddress = type == COPY ? address + place - from : NONE;
                if (goesOn(type, partAddress, number)) {
                    sizes[count - 1] += part;
                } else {
                    append(type, part, partAddress, number);
                }
                place += part - 1;
            }
        }

        private boolean goesOn(int type, int address, int number) {
            int last = count - 1;
            if (last < 0 || types[last] != type || numbers[last] != number) {
                return false;
            }
            return type == ADD || addresses[last] + sizes[last] == address;
        }
    }

    /** Searches a window for what it has in common with the source and with itself. */
    private static final class Matcher {
        private final int[] cells = new int[FILE_ROOM + MOST_WINDOW];
        private int source;
        private int end;
        private int chain;
        private int matchAddress;
        private int matchSize;

        void takeSource(Row old, int chain) {
            this.chain = chain;
            source = old.count;
            System.arraycopy(old.cells, 0, cells, 0, source);
        }

        void takeWindow(Row fresh, int from, int most) {
            int n = Math.min(most, fresh.count - from);
            System.arraycopy(fresh.cells, from, cells, source, n);
            end = source + n;
        }

        void planWindow(Plan plan, int number) {
            int added = 0;
            for (int here = source; here < end; here++) {
                int run = runAt(here);
                findMatch(here);
                if (run >= MATCH && run >= matchSize) {
                    appendAdd(plan, added, number);
                    plan.append(RUN, run, NONE, number);
                    added = 0;
                    here += run - 1;
                } else if (matchSize >= MATCH) {
                    int before = sameBefore(here, added);
                    appendAdd(plan, added - before, number);
                    plan.append(COPY, before + matchSize, matchAddress - before, number);
                    added = 0;
                    here += matchSize - 1;
                } else {
                    added++;
                }
            }
            appendAdd(plan, added, number);
        }

        private static void appendAdd(Plan plan, int added, int number) {
            if (added > 0) {
                plan.append(ADD, added, NONE, number);
            }
        }

        private int runAt(int here) {
            int run = 1;
            while (here + run < end && cells[here + run] == cells[here]) {
                run++;
            }
            return run;
        }

        private void findMatch(int here) {
            matchSize = 0;
            matchAddress = NONE;
            if (here + MATCH > end) {
                return;
            }
            int seen = 0;
            for (int address = here - 1; address >= 0 && seen < chain; address--) {
                if (isCandidate(address, here)) {
                    seen++;
                    int size = sameFrom(address, here);
                    // From the greatest address down, so that of equal ones the greatest stays.
                    if (size > matchSize) {
                        matchSize = size;
                        matchAddress = address;
                    }
                }
            }
        }

        private boolean isCandidate(int address, int here) {
            if (cells[address] != cells[here] || address < source && address + MATCH > source) {
                return false;
            }
            return cells[address + 1] == cells[here + 1]
                && cells[address + 2] == cells[here + 2]
                && cells[address + 3] == cells[here + 3];
        }

        private int sameFrom(int address, int here) {
            int same = 0;
            while (here + same < end && cells[address + same] == cells[here + same]) {
                same++;
            }
            return same;
        }

        private int sameBefore(int here, int added) {
            int same = 0;
            while (same < added && same < matchAddress
                && cells[matchAddress - same - 1] == cells[here - same - 1]) {
                same++;
            }
            return same;
        }
    }

    /** The addresses that came before in a window, by which the next ones are told. */
    private static final class AddressRows {
        private final int[] near = new int[MOST_NEAR];
        private final int[] same = new int[256 * MOST_SAME];
        private int nears;
        private int sames;
        private int turn;

        void open(int nears, int sames) {
            this.nears = nears;
            this.sames = sames;
            turn = 0;
            Arrays.fill(near, 0);
            Arrays.fill(same, 0);
        }

        /** Tells an address, and answers the mode by which it is told. */
        int tell(int address, int here, Row to) {
            int mode = modeFor(address, here);
            if (mode >= 2 + nears) {
                to.push(address % 256);
            } else {
                to.pushNumber(numberFor(mode, address, here));
            }
            remember(address);
            return mode;
        }

        /** The address that is told by a mode, or NONE when there is none such. */
        int hear(int mode, int here, Cursor from) {
            int address = NONE;
            if (mode < 2 + nears) {
                int number = from.number();
                if (number < 0) {
                    return NONE;
                }
                address = mode == 0 ? number : mode == 1 ? here - number : near[mode - 2] + number;
            } else if (mode < 2 + nears + sames) {
                int x = from.next();
                if (x < 0) {
                    return NONE;
                }
                address = same[256 * (mode - 2 - nears) + x];
            }
            if (address < 0 || address >= here) {
                return NONE;
            }
            remember(address);
            return address;
        }

        private int modeFor(int address, int here) {
            int number = sames > 0 ? address % (256 * sames) : 0;
            if (sames > 0 && same[number] == address) {
                return 2 + nears + number / 256;
            }
            int best = 0;
            for (int mode = 1; mode < 2 + nears; mode++) {
                int told = numberFor(mode, address, here);
                if (told >= 0 && told < numberFor(best, address, here)) {
                    best = mode;
                }
            }
            return best;
        }

        private int numberFor(int mode, int address, int here) {
            return mode == 0 ? address : mode == 1 ? here - address : address - near[mode - 2];
        }

        private void remember(int address) {
            if (nears > 0) {
                near[turn] = address;
                turn = (turn + 1) % nears;
            }
            if (sames > 0) {
                same[address % (256 * sames)] = address;
            }
        }
    }

    /** Writes the windows of a plan. */
    private static final class Writer {
        // A byte of NEW costs at most a code, a size and an address of two bytes, a window at most 20 bytes more.
        private static final int ROOM = 5 * FILE_ROOM + 20 * (FILE_ROOM / LEAST_WINDOW + 1) + 5;

        final Row out = new Row(ROOM);
        private final Row head = new Row(20);
        private final Row data = new Row(MOST_WINDOW);
        private final Row codes = new Row(3 * MOST_WINDOW);
        private final Row addresses = new Row(2 * MOST_WINDOW);
        private final int[] modes = new int[FILE_ROOM];
        private final AddressRows rows = new AddressRows();
        private int next;

        void open() {
            next = 0;
            out.count = 0;
            out.push(214);
            out.push(195);
            out.push(196);
            out.push(0);
            out.push(0);
        }

        void writeWindow(Plan plan, Row fresh, int number, boolean checked) {
            int from = number * plan.window;
            int size = Math.min(plan.window, fresh.count - from);
            int first = next;
            while (next < plan.count && plan.numbers[next] == number) {
                next++;
            }
            gatherData(plan, fresh, first, from);
            tellAddresses(plan, first);
            writeCodes(plan, first);
            writeHead(size, checked, checkOf(fresh.cells, from, size));
            writeSource(plan.source, checked);
            out.pushNumber(head.count + data.count + codes.count + addresses.count);
            pushRow(head);
            pushRow(data);
            pushRow(codes);
            pushRow(addresses);
        }

        private void pushRow(Row row) {
            out.pushPart(row.cells, 0, row.count);
        }

        private void writeSource(int source, boolean checked) {
            out.push((source > 0 ? 1 : 0) + (checked ? 4 : 0));
            if (source > 0) {
                out.pushNumber(source);
                out.pushNumber(0);
            }
        }

        private void writeHead(int size, boolean checked, long check) {
            head.count = 0;
            head.pushNumber(size);
            head.push(0);
            head.pushNumber(data.count);
            head.pushNumber(codes.count);
            head.pushNumber(addresses.count);
            if (checked) {
                for (int shift = 24; shift >= 0; shift -= 8) {
                    head.push((int) (check >>> shift) & 255);
                }
            }
        }

        private void gatherData(Plan plan, Row fresh, int first, int from) {
            data.count = 0;
            int place = from;
            for (int i = first; i < next; i++) {
                if (plan.types[i] == ADD) {
                    data.pushPart(fresh.cells, place, plan.sizes[i]);
                } else if (plan.types[i] == RUN) {
                    data.push(fresh.cells[place]);
                }
                place += plan.sizes[i];
            }
        }

        private void tellAddresses(Plan plan, int first) {
            addresses.count = 0;
            rows.open(NEAR, SAME);
            int here = plan.source;
            for (int i = first; i < next; i++) {
                if (plan.types[i] == COPY) {
                    modes[i] = rows.tell(plan.addresses[i], here, addresses);
                }
                here += plan.sizes[i];
            }
        }

        private void writeCodes(Plan plan, int first) {
            codes.count = 0;
            for (int i = first; i < next; i++) {
                int code = i + 1 < next ? codeForTwo(plan, i) : NONE;
                if (code >= 0) {
                    codes.push(code);
                    i++;
                } else {
                    writeCode(plan.types[i], plan.sizes[i], modes[i]);
                }
            }
        }

        private int codeForTwo(Plan plan, int i) {
            int size = plan.sizes[i];
            int behind = plan.sizes[i + 1];
            if (plan.types[i] == ADD && plan.types[i + 1] == COPY && size <= 4) {
                int mode = modes[i + 1];
                if (mode <= 5 && behind >= 4 && behind <= 6) {
                    return 163 + 12 * mode + 3 * (size - 1) + behind - 4;
                }
                return mode >= 6 && behind == 4 ? 235 + 4 * (mode - 6) + size - 1 : NONE;
            }
            boolean copyAdd = plan.types[i] == COPY && size == 4 && plan.types[i + 1] == ADD && behind == 1;
            return copyAdd ? 247 + modes[i] : NONE;
        }

        private void writeCode(int type, int size, int mode) {
            if (type == ADD && size <= 17) {
                codes.push(1 + size);
            } else if (type == COPY && size >= 4 && size <= 18) {
                codes.push(19 + 16 * mode + size - 3);
            } else {
                codes.push(type == RUN ? 0 : type == ADD ? 1 : 19 + 16 * mode);
                codes.pushNumber(size);
            }
        }
    }

    /** A place in bytes that are read up to an end; NONE is answered when they are not as they must be. */
    private static final class Cursor {
        int[] cells = new int[0];
        int place;
        int end;

        void open(int[] cells, int from, int n) {
            this.cells = cells;
            place = from;
            end = from + n;
        }

        int left() {
            return end - place;
        }

        int next() {
            if (place >= end) {
                return NONE;
            }
            place++;
            return cells[place - 1];
        }

        int number() {
            int value = 0;
            for (int i = 0; i < 4 && place < end; i++) {
                int b = cells[place];
                place++;
                value = value * 128 + b % 128;
                if (b < 128) {
                    return value;
                }
            }
            return NONE;
        }
    }

    /** Reads one window of a delta, and makes its bytes behind those of the windows before it. */
    private static final class WindowReader {
        private final Cursor body = new Cursor();
        private final Cursor data = new Cursor();
        private final Cursor codes = new Cursor();
        private final Cursor addresses = new Cursor();
        private final AddressRows rows = new AddressRows();
        private Row made = new Row(0);
        private Row source = made;
        private int sourceFrom;
        private int sourceSize;
        private int start;
        private int size;
        private boolean checked;
        private long check;

        int readHead(Cursor in, Row old, Row made) {
            this.made = made;
            start = made.count;
            int kind = in.next();
            if (kind < 0 || kind > 7 || (kind & 3) == 3 || !readSource(in, kind & 3, old)) {
                return BROKEN;
            }
            checked = (kind & 4) != 0;
            int bytes = in.number();
            if (bytes < 0 || bytes > in.left()) {
                return BROKEN;
            }
            body.open(in.cells, in.place, bytes);
            in.place += bytes;
            size = body.number();
            if (size < 0) {
                return BROKEN;
            }
            if (size > made.left()) {
                return LARGE;
            }
            int second = body.next();
            if (second > 0 && (second & 7) != 0) {
                return SECOND;
            }
            return second == 0 && readParts() ? FINE : BROKEN;
        }

        private boolean readSource(Cursor in, int kind, Row old) {
            sourceFrom = 0;
            sourceSize = 0;
            source = kind == 2 ? made : old;
            if (kind == 0) {
                return true;
            }
            sourceSize = in.number();
            if (sourceSize < 0) {
                return false;
            }
            sourceFrom = in.number();
            return sourceFrom >= 0 && sourceFrom + sourceSize <= source.count;
        }

        private boolean readParts() {
            int forData = body.number();
            int forCodes = body.number();
            int forAddresses = body.number();
            if (forData < 0 || forCodes < 0 || forAddresses < 0) {
                return false;
            }
            int checkBytes = checked ? 4 : 0;
            if (forData + forCodes + forAddresses + checkBytes != body.left()) {
                return false;
            }
            check = 0;
            for (int i = 0; i < checkBytes; i++) {
                check = 256 * check + body.next();
            }
            data.open(body.cells, body.place, forData);
            codes.open(body.cells, data.end, forCodes);
            addresses.open(body.cells, codes.end, forAddresses);
            return true;
        }

        int make(Row table, int nears, int sames) {
            rows.open(nears, sames);
            for (int i = 0; i < DELTA_ROOM && codes.left() > 0; i++) {
                int code = codes.next();
                for (int which = 0; which < 2; which++) {
                    int entry = 256 * which + code;
                    int type = table.cells[entry];
                    int n = type == 0 ? 0 : readSize(table.cells[TABLE_SIZES + entry]);
                    if (n < 0
                        || type == ADD && !makeAdd(n)
                        || type == RUN && !makeRun(n)
                        || type == COPY && !makeCopy(n, table.cells[TABLE_MODES + entry])) {
                        return BROKEN;
                    }
                }
            }
            if (made.count != start + size || data.left() > 0 || addresses.left() > 0) {
                return BROKEN;
            }
            return checked && checkOf(made.cells, start, size) != check ? CHECK : FINE;
        }

        /** How many bytes an instruction makes, or NONE when that is not told or the window has no room for them. */
        private int readSize(int inCode) {
            int n = inCode == 0 ? codes.number() : inCode;
            return n <= start + size - made.count ? n : NONE;
        }

        private boolean makeAdd(int n) {
            if (n > data.left()) {
                return false;
            }
            made.pushPart(data.cells, data.place, n);
            data.place += n;
            return true;
        }

        private boolean makeRun(int n) {
            int b = data.next();
            for (int i = 0; i < n && b >= 0; i++) {
                made.push(b);
            }
            return b >= 0;
        }

        private boolean makeCopy(int n, int mode) {
            int address = rows.hear(mode, sourceSize + made.count - start, addresses);
            if (address < 0) {
                return false;
            }
            // Byte by byte, for a copy may reach into what it makes.
            for (int a = address; a < address + n; a++) {
                made.push(a < sourceSize ? source.cells[sourceFrom + a] : made.cells[start + a - sourceSize]);
            }
            return true;
        }
    }

    /** Reads a delta, and before it the delta of a table when there is one. */
    private static final class Reader {
        private static final int SECOND_ENTRIES = 256;

        final Row madeResult = new Row(FILE_ROOM);
        private final Row madeTable = new Row(TABLE_ROOM);
        private final Row standardTable = makeStandardTable();
        private final Cursor delta = new Cursor();
        private final Cursor tableDelta = new Cursor();
        private final WindowReader windowReader = new WindowReader();
        private int fifth;
        private int toldNear;
        private int toldSame;
        private Row toldTable = standardTable;
        private Cursor in = delta;
        private Row old = standardTable;
        private Row made = madeResult;
        private Row table = standardTable;
        private int nears;
        private int sames;

        int open(Row bytes) {
            delta.open(bytes.cells, 0, bytes.count);
            toldNear = NEAR;
            toldSame = SAME;
            toldTable = standardTable;
            fifth = readBeginning(delta);
            if (fifth > 0 && (fifth & 1) != 0) {
                return SECOND;
            }
            return fifth == 0 || fifth == 2 ? FINE : BROKEN;
        }

        boolean tableFollows() {
            return fifth == 2;
        }

        int enterTable() {
            int bytes = delta.number();
            if (bytes < 2 || bytes > delta.left()) {
                return BROKEN;
            }
            tableDelta.open(delta.cells, delta.place, bytes);
            delta.place += bytes;
            toldNear = tableDelta.next();
            toldSame = tableDelta.next();
            if (toldNear > MOST_NEAR || toldSame > MOST_SAME || readBeginning(tableDelta) != 0) {
                return TABLE;
            }
            in = tableDelta;
            old = standardTable;
            made = madeTable;
            table = standardTable;
            nears = NEAR;
            sames = SAME;
            return FINE;
        }

        int leaveTable(int answer) {
            toldTable = madeTable;
            return answer == FINE && isTable(madeTable) ? FINE : TABLE;
        }

        void enterResult(Row file) {
            in = delta;
            old = file;
            made = madeResult;
            table = toldTable;
            nears = toldNear;
            sames = toldSame;
        }

        int readWindows() {
            made.count = 0;
            int answer = FINE;
            for (int i = 0; i < DELTA_ROOM && answer == FINE && in.left() > 0; i++) {
                answer = windowReader.readHead(in, old, made);
                if (answer == FINE) {
                    answer = windowReader.make(table, nears, sames);
                }
            }
            return answer;
        }

        /** The fifth byte, or NONE when there is none or those before it are not a delta's. */
        private static int readBeginning(Cursor from) {
            boolean known = from.next() == 214 && from.next() == 195 && from.next() == 196 && from.next() == 0;
            return known ? from.next() : NONE;
        }

        private static boolean isTable(Row row) {
            if (row.count != TABLE_ROOM) {
                return false;
            }
            for (int i = 0; i < TABLE_SIZES; i++) {
                if (row.cells[i] > COPY) {
                    return false;
                }
            }
            return true;
        }

        private static Row makeStandardTable() {
            Row row = new Row(TABLE_ROOM);
            row.count = TABLE_ROOM;
            enter(row, 0, RUN, 0, 0);
            for (int size = 0; size <= 17; size++) {
                enter(row, 1 + size, ADD, size, 0);
            }
            for (int mode = 0; mode <= 8; mode++) {
                enter(row, 19 + 16 * mode, COPY, 0, mode);
                for (int size = 4; size <= 18; size++) {
                    enter(row, 19 + 16 * mode + size - 3, COPY, size, mode);
                }
                enterAddCopies(row, mode);
                enter(row, 247 + mode, COPY, 4, mode);
                enter(row, SECOND_ENTRIES + 247 + mode, ADD, 1, 0);
            }
            return row;
        }

        private static void enterAddCopies(Row row, int mode) {
            int copies = mode <= 5 ? 3 : 1;
            int first = mode <= 5 ? 163 + 12 * mode : 235 + 4 * (mode - 6);
            for (int i = 0; i < 4 * copies; i++) {
                enter(row, first + i, ADD, 1 + i / copies, 0);
                enter(row, SECOND_ENTRIES + first + i, COPY, 4 + i % copies, mode);
            }
        }

        private static void enter(Row row, int entry, int type, int size, int mode) {
            row.cells[entry] = type;
            row.cells[TABLE_SIZES + entry] = size;
            row.cells[TABLE_MODES + entry] = mode;
        }
    }
}
