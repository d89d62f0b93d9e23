import java.security.MessageDigest;
import java.security.NoSuchAlgorithmException;
import java.util.ArrayList;
import java.util.Arrays;
import java.util.List;
import java.util.zip.Adler32;

/** The document once more, written for plainness and with the Java library: what DeltaFerry is held against. */
final class Model {
    static final int NONE = -1, BROKEN = -2, SECOND = -3, LARGE = -4, TABLE = -5, CHECK = -6, OTHER = -7;
    static final int ADD = 1, RUN = 2, COPY = 3;
    static final int[] ROOMS = {300, 300, 700, 300};

    static final class Refused extends RuntimeException {
        private static final long serialVersionUID = 1L;
        final int why;

        Refused(int why) {
            super(null, null, false, false);
            this.why = why;
        }
    }

    static final class Told {
        final int type, size, address, window, place;

        Told(int type, int size, int address, int window, int place) {
            this.type = type;
            this.size = size;
            this.address = address;
            this.window = window;
            this.place = place;
        }
    }

    final List<List<Integer>> files = new ArrayList<>();
    List<List<Integer>> signature;
    int signedBlock;
    List<Told> plan;
    int planWindow, planSource;
    int block = 8, window = 64, phase = 0;
    String noted = "";

    Model() {
        for (int i = 0; i < 4; i++) {
            files.add(new ArrayList<>());
        }
    }

    boolean put(int file, long bytes, int n) {
        if (n < 1 || n > 8 || file < 0 || file > 2 || files.get(file).size() + n > ROOMS[file]) {
            return false;
        }
        for (int i = 0; i < n; i++) {
            files.get(file).add((int) ((bytes >> (8 * i)) & 0xff));
        }
        touched(file);
        return true;
    }

    boolean set(int file, int at, int b) {
        if (file < 0 || file > 2 || at < 0 || at >= files.get(file).size()) {
            return false;
        }
        files.get(file).set(at, b & 0xff);
        touched(file);
        return true;
    }

    boolean copy(int from, int to) {
        if (from < 0 || from > 3 || to < 0 || to > 2 || files.get(from).size() > ROOMS[to]) {
            return false;
        }
        files.set(to, new ArrayList<>(files.get(from)));
        touched(to);
        return true;
    }

    int clear(int file) {
        if (file < 0 || file > 3) {
            return NONE;
        }
        int had = files.get(file).size();
        files.set(file, new ArrayList<>());
        touched(file);
        return had;
    }

    private void touched(int file) {
        if (file == 1) {
            plan = null;
        }
    }

    int size(int file) {
        return file < 0 || file > 3 ? NONE : files.get(file).size();
    }

    int at(int file, int i) {
        return i < 0 || i >= size(file) ? NONE : files.get(file).get(i);
    }

    static byte[] bytesOf(List<Integer> row) {
        byte[] bytes = new byte[row.size()];
        for (int i = 0; i < bytes.length; i++) {
            bytes[i] = (byte) (int) row.get(i);
        }
        return bytes;
    }

    static byte[] md5(List<Integer> row) {
        try {
            return MessageDigest.getInstance("MD5").digest(bytesOf(row));
        } catch (NoSuchAlgorithmException e) {
            throw new AssertionError(e);
        }
    }

    long digest(int file, int half) {
        return file < 0 || file > 3 ? 0 : half(files.get(file), half);
    }

    static long half(List<Integer> row, int half) {
        byte[] all = md5(row);
        long value = 0;
        for (int i = 0; i < 8; i++) {
            value = (value << 8) + (all[(half == 0 ? 0 : 8) + i] & 0xff);
        }
        return value;
    }

    static long check(List<Integer> row) {
        Adler32 adler = new Adler32();
        adler.update(bytesOf(row));
        return adler.getValue();
    }

    static long weak(List<Integer> row) {
        long weighted = 0;
        long plain = 0;
        for (int i = 0; i < row.size(); i++) {
            weighted += (long) (row.size() - i) * row.get(i);
            plain += row.get(i);
        }
        return 65536L * (weighted % 65536) + plain % 65536;
    }

    long sum(int file, int from, int n) {
        if (file < 0 || file > 3) {
            return NONE;
        }
        if (from == 0 && n == 0) {
            return check(files.get(file));
        }
        if (n <= 0 || from < 0 || (long) from + n > size(file)) {
            return NONE;
        }
        return weak(files.get(file).subList(from, from + n));
    }

    int sign(int block) {
        if (block < 4 || block > 64) {
            return NONE;
        }
        signature = new ArrayList<>();
        signedBlock = block;
        for (int i = 0; (i + 1) * block <= size(0); i++) {
            signature.add(new ArrayList<>(files.get(0).subList(i * block, (i + 1) * block)));
        }
        return signature.size();
    }

    /** Blocks are held against bytes as they are: equal sums of other bytes do not come up in tests. */
    int scan(int window) {
        if (signature == null || window < 16 || window > 256) {
            return NONE;
        }
        int n = size(1);
        int[] from = new int[n];
        for (int p = 0; p < n;) {
            int found = p + signedBlock <= n ? signature.indexOf(files.get(1).subList(p, p + signedBlock)) : -1;
            if (found < 0) {
                from[p++] = NONE;
            } else {
                for (int k = 0; k < signedBlock; k++) {
                    from[p++] = found * signedBlock + k;
                }
            }
        }
        plan = new ArrayList<>();
        planWindow = window;
        planSource = signature.size() * signedBlock;
        for (int p = 0; p < n;) {
            int end = p + 1;
            while (end < n && end % window != 0
                && (from[p] < 0 ? from[end] < 0 : from[end] == from[p] + end - p)) {
                end++;
            }
            plan.add(new Told(from[p] < 0 ? ADD : COPY, end - p, from[p], p / window, p));
            p = end;
        }
        return plan.size();
    }

    int differ(int chain, int window) {
        if (chain < 1 || chain > 16 || window < 16 || window > 256) {
            return NONE;
        }
        plan = new ArrayList<>();
        planWindow = window;
        planSource = size(0);
        for (int start = 0; start < size(1); start += window) {
            int end = Math.min(size(1), start + window);
            List<Integer> u = new ArrayList<>(files.get(0));
            u.addAll(files.get(1).subList(start, end));
            for (int[] t : differed(u, size(0), chain)) {
                plan.add(new Told(t[0], t[1], t[2], start / window, start + t[3]));
            }
        }
        return plan.size();
    }

    private static List<int[]> differed(List<Integer> u, int source, int chain) {
        List<int[]> made = new ArrayList<>();
        int p = source;
        while (p < u.size()) {
            int r = 0;
            while (p + r < u.size() && u.get(p + r).equals(u.get(p))) {
                r++;
            }
            List<Integer> candidates = new ArrayList<>();
            for (int c = 0; c < p && p + 4 <= u.size(); c++) {
                boolean there = c >= source || c + 4 <= source;
                if (there && u.subList(c, c + 4).equals(u.subList(p, p + 4))) {
                    candidates.add(c);
                }
            }
            int skip = Math.max(0, candidates.size() - chain);
            int most = 0;
            int best = NONE;
            for (int c : candidates.subList(skip, candidates.size())) {
                int l = 0;
                while (p + l < u.size() && u.get(c + l).equals(u.get(p + l))) {
                    l++;
                }
                if (l >= most) {
                    most = l;
                    best = c;
                }
            }
            int[] last = made.isEmpty() ? null : made.get(made.size() - 1);
            if (r >= 4 && r >= most) {
                made.add(new int[] {RUN, r, NONE, p - source});
                p += r;
            } else if (most >= 4) {
                int place = p;
                p += most;
                while (last != null && last[0] == ADD && last[1] > 0 && best > 0
                    && u.get(best - 1).equals(u.get(place - 1))) {
                    last[1]--;
                    best--;
                    place--;
                }
                if (last != null && last[1] == 0) {
                    made.remove(made.size() - 1);
                }
                made.add(new int[] {COPY, p - place, best, place - source});
            } else if (last != null && last[0] == ADD) {
                last[1]++;
                p++;
            } else {
                made.add(new int[] {ADD, 1, NONE, p - source});
                p++;
            }
        }
        return made;
    }

    int instruction(int i, int what) {
        if (plan == null || i < 0 || i >= plan.size()) {
            return NONE;
        }
        Told told = plan.get(i);
        return what == 0 ? told.type : what == 1 ? told.size
            : what == 2 ? (told.type == COPY ? told.address : NONE) : what == 3 ? told.window : NONE;
    }

    /** THE TABLE as a list of rows: first type, second type, first size, second size, first mode, second mode. */
    static int[][] codes() {
        int[][] codes = new int[256][];
        int next = 0;
        codes[next++] = new int[] {RUN, 0, 0, 0, 0, 0};
        for (int size = 0; size <= 17; size++) {
            codes[next++] = new int[] {ADD, 0, size, 0, 0, 0};
        }
        for (int mode = 0; mode <= 8; mode++) {
            codes[next++] = new int[] {COPY, 0, 0, 0, mode, 0};
            for (int size = 4; size <= 18; size++) {
                codes[next++] = new int[] {COPY, 0, size, 0, mode, 0};
            }
        }
        for (int mode = 0; mode <= 8; mode++) {
            for (int add = 1; add <= 4; add++) {
                for (int copy = 4; copy <= (mode <= 5 ? 6 : 4); copy++) {
                    codes[next++] = new int[] {ADD, COPY, add, copy, 0, mode};
                }
            }
        }
        for (int mode = 0; mode <= 8; mode++) {
            codes[next++] = new int[] {COPY, ADD, 4, 1, mode, 0};
        }
        return codes;
    }

    static List<Integer> tableBytes(int[][] codes) {
        List<Integer> bytes = new ArrayList<>();
        for (int column = 0; column < 6; column++) {
            for (int[] code : codes) {
                bytes.add(code[column]);
            }
        }
        return bytes;
    }

    static int[][] tableCodes(List<Integer> bytes) {
        int[][] codes = new int[256][6];
        for (int i = 0; i < bytes.size(); i++) {
            codes[i % 256][i / 256] = bytes.get(i);
        }
        return codes;
    }

    static List<Integer> number(int value) {
        List<Integer> bytes = new ArrayList<>();
        bytes.add(value % 128);
        for (int rest = value / 128; rest > 0; rest /= 128) {
            bytes.add(0, 128 + rest % 128);
        }
        return bytes;
    }

    /** The rows of addresses of one window. */
    static final class Rows {
        final int[] near, same;
        int turn;

        Rows(int nears, int sames) {
            near = new int[nears];
            same = new int[256 * sames];
        }

        void told(int address) {
            if (near.length > 0) {
                near[turn++ % near.length] = address;
            }
            if (same.length > 0) {
                same[address % same.length] = address;
            }
        }
    }

    int encode(boolean checked) {
        if (plan == null) {
            return NONE;
        }
        List<Integer> out = new ArrayList<>(List.of(214, 195, 196, 0, 0));
        for (int start = 0; start < size(1); start += planWindow) {
            int end = Math.min(size(1), start + planWindow);
            List<Told> told = new ArrayList<>();
            for (Told t : plan) {
                if (t.window == start / planWindow) {
                    told.add(t);
                }
            }
            writeWindow(out, told, files.get(1).subList(start, end), start, checked);
        }
        if (out.size() > 700) {
            return LARGE;
        }
        files.set(2, out);
        return out.size();
    }

    private void writeWindow(List<Integer> out, List<Told> told, List<Integer> bytes, int start, boolean checked) {
        List<Integer> data = new ArrayList<>();
        List<Integer> addresses = new ArrayList<>();
        List<int[]> sized = new ArrayList<>();
        Rows rows = new Rows(4, 3);
        for (Told t : told) {
            int at = t.place - start;
            int mode = 0;
            if (t.type == ADD) {
                data.addAll(bytes.subList(at, at + t.size));
            } else if (t.type == RUN) {
                data.add(bytes.get(at));
            } else {
                mode = tell(rows, t.address, planSource + at, addresses);
            }
            sized.add(new int[] {t.type, t.size, mode});
        }
        List<Integer> codes = codesFor(sized);
        List<Integer> body = new ArrayList<>(number(bytes.size()));
        body.add(0);
        body.addAll(number(data.size()));
        body.addAll(number(codes.size()));
        body.addAll(number(addresses.size()));
        if (checked) {
            long check = check(bytes);
            for (int i = 3; i >= 0; i--) {
                body.add((int) (check >> (8 * i)) & 0xff);
            }
        }
        body.addAll(data);
        body.addAll(codes);
        body.addAll(addresses);
        out.add((planSource > 0 ? 1 : 0) | (checked ? 4 : 0));
        if (planSource > 0) {
            out.addAll(number(planSource));
            out.add(0);
        }
        out.addAll(number(body.size()));
        out.addAll(body);
    }

    private static int tell(Rows rows, int address, int here, List<Integer> to) {
        int mode = 0;
        if (rows.same[address % 768] == address) {
            mode = 6 + address % 768 / 256;
            to.add(address % 256);
        } else {
            int[] numbers = new int[6];
            numbers[0] = address;
            numbers[1] = here - address;
            for (int i = 0; i < 4; i++) {
                numbers[2 + i] = address < rows.near[i] ? Integer.MAX_VALUE : address - rows.near[i];
            }
            int least = Arrays.stream(numbers).min().getAsInt();
            while (numbers[mode] != least) {
                mode++;
            }
            to.addAll(number(least));
        }
        rows.told(address);
        return mode;
    }

    /** Codes are searched for in the table, so that its order and the writer's must agree. */
    private static List<Integer> codesFor(List<int[]> sized) {
        int[][] table = codes();
        List<Integer> out = new ArrayList<>();
        for (int i = 0; i < sized.size(); i++) {
            int[] a = sized.get(i);
            int[] none = {0, 0, 0};
            int[] b = i + 1 < sized.size() ? sized.get(i + 1) : none;
            int two = i + 1 < sized.size() ? find(table, a, b) : -1;
            int one = find(table, a, none);
            if (two >= 0) {
                out.add(two);
                i++;
            } else if (one >= 0) {
                out.add(one);
            } else {
                out.add(find(table, new int[] {a[0], 0, a[2]}, none));
                out.addAll(number(a[1]));
            }
        }
        return out;
    }

    private static int find(int[][] table, int[] a, int[] b) {
        int[] wanted = {a[0], b[0], a[1], b[1], a[2], b[2]};
        for (int code = 0; code < 256; code++) {
            if (Arrays.equals(table[code], wanted)) {
                return code;
            }
        }
        return -1;
    }

    /** Bytes that are read from the front; what is missing is BROKEN. */
    static final class Bytes {
        final List<Integer> row;
        int place = 0;

        Bytes(List<Integer> row) {
            this.row = row;
        }

        int left() {
            return row.size() - place;
        }

        int one() {
            need(left() > 0);
            return row.get(place++);
        }

        int number() {
            int value = 0;
            for (int i = 0; i < 4; i++) {
                int b = one();
                value = value * 128 + (b & 127);
                if (b < 128) {
                    return value;
                }
            }
            throw new Refused(BROKEN);
        }

        Bytes part(int n) {
            need(n <= left());
            place += n;
            return new Bytes(row.subList(place - n, place));
        }
    }

    static void need(boolean holds) {
        if (!holds) {
            throw new Refused(BROKEN);
        }
    }

    static void refuse(boolean when, int why) {
        if (when) {
            throw new Refused(why);
        }
    }

    int decode() {
        try {
            files.set(3, read(new Bytes(files.get(2)), files.get(0), 300, true));
            return size(3);
        } catch (Refused refused) {
            return refused.why;
        }
    }

    static List<Integer> read(Bytes in, List<Integer> old, int room, boolean outer) {
        need(in.one() == 214);
        need(in.one() == 195);
        need(in.one() == 196);
        need(in.one() == 0);
        int fifth = in.one();
        refuse((fifth & 1) != 0, SECOND);
        need(fifth == 0 || fifth == 2 && outer);
        int[][] codes = codes();
        int nears = 4;
        int sames = 3;
        if (fifth == 2) {
            int size = in.number();
            need(size >= 2);
            Bytes told = in.part(size);
            nears = told.one();
            sames = told.one();
            refuse(nears > 8 || sames > 4, TABLE);
            List<Integer> made = null;
            try {
                made = read(told, tableBytes(codes), 1536, false);
            } catch (Refused refused) {
                throw new Refused(TABLE);
            }
            refuse(made.size() != 1536, TABLE);
            for (int type : made.subList(0, 512)) {
                refuse(type > 3, TABLE);
            }
            codes = tableCodes(made);
        }
        List<Integer> result = new ArrayList<>();
        while (in.left() > 0) {
            readWindow(in, old, result, room, codes, new Rows(nears, sames));
        }
        return result;
    }

    private static void readWindow(
            Bytes in, List<Integer> old, List<Integer> result, int room, int[][] codes, Rows rows) {
        int kind = in.one();
        need(kind < 8 && kind % 4 != 3);
        List<Integer> u = new ArrayList<>();
        if (kind % 4 != 0) {
            List<Integer> from = kind % 4 == 1 ? old : result;
            int size = in.number();
            int place = in.number();
            need(place + size <= from.size());
            u.addAll(from.subList(place, place + size));
        }
        int source = u.size();
        Bytes body = in.part(in.number());
        int size = body.number();
        refuse(result.size() + size > room, LARGE);
        int second = body.one();
        refuse(second % 8 != 0, SECOND);
        need(second == 0);
        int[] parts = {body.number(), body.number(), body.number()};
        long check = 0;
        for (int i = 0; i < 4 && kind >= 4; i++) {
            check = 256 * check + body.one();
        }
        Bytes data = body.part(parts[0]);
        Bytes told = body.part(parts[1]);
        Bytes addresses = body.part(parts[2]);
        need(body.left() == 0);
        while (told.left() > 0) {
            int[] code = codes[told.one()];
            for (int k = 0; k < 2; k++) {
                if (code[k] != 0) {
                    int n = code[2 + k] == 0 ? told.number() : code[2 + k];
                    need(u.size() - source + n <= size);
                    make(u, code[k], n, code[4 + k], data, addresses, rows);
                }
            }
        }
        need(u.size() - source == size && data.left() == 0 && addresses.left() == 0);
        List<Integer> made = u.subList(source, u.size());
        refuse(kind >= 4 && check(made) != check, CHECK);
        result.addAll(new ArrayList<>(made));
    }

    private static void make(
            List<Integer> u, int type, int n, int mode, Bytes data, Bytes addresses, Rows rows) {
        if (type == ADD) {
            u.addAll(data.part(n).row);
        } else if (type == RUN) {
            int b = data.one();
            for (int i = 0; i < n; i++) {
                u.add(b);
            }
        } else {
            int here = u.size();
            int address = address(mode, here, addresses, rows);
            need(address >= 0 && address < here);
            rows.told(address);
            for (int i = 0; i < n; i++) {
                u.add(u.get(address + i));
            }
        }
    }

    private static int address(int mode, int here, Bytes addresses, Rows rows) {
        if (mode == 0) {
            return addresses.number();
        }
        if (mode == 1) {
            return here - addresses.number();
        }
        if (mode - 2 < rows.near.length) {
            return rows.near[mode - 2] + addresses.number();
        }
        int row = mode - 2 - rows.near.length;
        need(256 * row < rows.same.length);
        return rows.same[256 * row + addresses.one()];
    }

    boolean begin(int block, int window) {
        if (block < 4 || block > 64 || window < 16 || window > 256) {
            return false;
        }
        this.block = block;
        this.window = window;
        phase = 0;
        return true;
    }

    int step() {
        int answer;
        if (phase == 0) {
            answer = sign(block);
            phase = 1;
        } else if (phase == 1) {
            answer = scan(window);
            answer = answer < 0 ? answer : encode(true);
            noted = Arrays.toString(md5(files.get(1)));
            phase = answer < 0 ? 0 : 2;
        } else {
            answer = decode();
            phase = 0;
            if (answer >= 0 && !noted.equals(Arrays.toString(md5(files.get(3))))) {
                answer = OTHER;
            }
        }
        return answer;
    }
}
